/-- the only rumour that is not as it has to be, of the first m -/
def wrI (σ : Nat → Int32) (w : Nat → Nat) : Nat → Int32
  | 0 => -6
  | m + 1 => if bad σ w m = true then (if wrI σ w m = -6 then nI m else nI 20) else wrI σ w m
theorem wrI_0 {σ : Nat → Int32} {w : Nat → Nat} {m : Nat} (h : bad σ w m = false) : wrI σ w m = wrI σ w (m + 1) := by
  have e : wrI σ w (m + 1) = if bad σ w m = true then (if wrI σ w m = -6 then nI m else nI 20) else wrI σ w m := rfl
  rw [e, h]; rfl
theorem wrI_1 {σ : Nat → Int32} {w : Nat → Nat} {m : Nat} (h : bad σ w m = true) (h2 : wrI σ w m = -6) : nI m = wrI σ w (m + 1) := by
  have e : wrI σ w (m + 1) = if bad σ w m = true then (if wrI σ w m = -6 then nI m else nI 20) else wrI σ w m := rfl
  rw [e, if_pos h, if_pos h2]
theorem wrI_2 {σ : Nat → Int32} {w : Nat → Nat} {m : Nat} (h : bad σ w m = true) (h2 : ¬ wrI σ w m = -6) : nI 20 = wrI σ w (m + 1) := by
  have e : wrI σ w (m + 1) = if bad σ w m = true then (if wrI σ w m = -6 then nI m else nI 20) else wrI σ w m := rfl
  rw [e, if_pos h, if_neg h2]
/-- -6: none is bad; below 20: that one alone; else several -/
theorem wrI_is (σ : Nat → Int32) (w : Nat → Nat) : ∀ m, m ≤ 20 → (wrI σ w m = -6 ∧ ∀ r, r < m → bad σ w r = false) ∨ (∃ r, r < m ∧ wrI σ w m = nI r ∧ bad σ w r = true ∧ ∀ r2, r2 < m → r2 ≠ r → bad σ w r2 = false) ∨ (wrI σ w m = nI 20 ∧ ∃ r r2, r < m ∧ r2 < m ∧ r ≠ r2 ∧ bad σ w r = true ∧ bad σ w r2 = true) := by
  intro m
  induction m with
  | zero => exact fun _ => Or.inl ⟨rfl, fun r hr => absurd hr (by omega)⟩
  | succ m ih =>
    intro hm
    have key := ih (by omega)
    by_cases hb : bad σ w m = true
    · rcases key with ⟨h1, h2⟩ | ⟨r, hr, h1, h2, h3⟩ | ⟨h1, r, r2, h2, h3, h4, h5, h6⟩
      · exact Or.inr (Or.inl ⟨m, by omega, (wrI_1 hb h1).symm, hb, fun r2 hr2 hne => h2 r2 (by omega)⟩)
      · exact Or.inr (Or.inr ⟨(wrI_2 hb (by rw [h1]; exact nI_ne6 (by omega))).symm, r, m, by omega, by omega, by omega, h2, hb⟩)
      · exact Or.inr (Or.inr ⟨(wrI_2 hb (by rw [h1]; exact nI_ne6 (by omega))).symm, r, r2, by omega, by omega, h4, h5, h6⟩)
    · have hb2 : bad σ w m = false := Bool.eq_false_iff.mpr hb
      rw [← wrI_0 hb2]
      rcases key with ⟨h1, h2⟩ | ⟨r, hr, h1, h2, h3⟩ | ⟨h1, r, r2, h2, h3, h4, h5, h6⟩
      · exact Or.inl ⟨h1, fun r hr => if z : r = m then (by subst z; exact hb2) else h2 r (by omega)⟩
      · exact Or.inr (Or.inl ⟨r, by omega, h1, h2, fun r2 hr2 hne => if z : r2 = m then (by subst z; exact hb2) else h3 r2 (by omega) hne⟩)
      · exact Or.inr (Or.inr ⟨h1, r, r2, by omega, by omega, h4, h5, h6⟩)
theorem bad_op {σ : Nat → Int32} {w : Nat → Nat} {r : Nat} (h : rk σ r 4 = 0) : bad σ w r = false := by
  unfold bad bk; rw [h]; split <;> rfl
theorem bad_pr {σ : Nat → Int32} {w : Nat → Nat} {r : Nat} (h : rk σ r 4 = 1) : bad σ w r = !hdr σ w r := by
  unfold bad bk; rw [h]
  show (if hdr σ w r = true then decide (1 = 2) else decide (1 = 1)) = _
  cases hdr σ w r <;> rfl
theorem bad_re {σ : Nat → Int32} {w : Nat → Nat} {r : Nat} (h : rk σ r 4 = 2) : bad σ w r = hdr σ w r := by
  unfold bad bk; rw [h]
  show (if hdr σ w r = true then decide (2 = 2) else decide (2 = 1)) = _
  cases hdr σ w r <;> rfl
theorem bI1 {P : Prop} [Decidable P] (h : bI P = nI 1) : P := Classical.byContradiction (fun z => by rw [← bI_f z] at h; exact absurd h (by decide))
theorem bI0 {P : Prop} [Decidable P] (h : bI P = nI 0) : ¬ P := fun z => by rw [← bI_t z] at h; exact absurd h (by decide)
theorem bI1n {P : Prop} [Decidable P] (h : ¬ bI P = nI 1) : ¬ P := fun z => h (bI_t z).symm
theorem bI0n {P : Prop} [Decidable P] (h : ¬ bI P = nI 0) : P := Classical.byContradiction (fun z => h (bI_f z).symm)

set_option maxRecDepth 100000 in
set_option maxHeartbeats 4000000 in
theorem c_X8_holds (l : Launch) (g : fG) (N : Nat) (ct : Nat → va_E) (z : Nat → Int32) (F : Nat → Nat → Int32) (σ : Nat → Int32) (hN : 249 ≤ N) (hG : Good σ) (hM : MA g ct z F) (hT : SR σ F) (w : Nat → Nat) (hw : Wok (nB σ) w) (hW : WR σ w F) (kd a0 b0 : Nat) (hok : okk (nB σ) kd a0 b0) : Met l yX8_holds (wsU yX8_holds cX8_holds 4 (some .boolean)) rX8_holds (fPre g N ct [.ref (fa g 239), .int (nI kd), .int (nI a0), .int (nI b0)]) (fQpi (fun r => r = bI (hd (nB σ) w kd a0 b0 = true))) 0 0 (fB g) := by
  refine fs_start (own := RX8) (lv0 := [(0, .ref (fa g 239)), (1, .int (nI kd)), (2, .int (nI a0)), (3, .int (nI b0))]) (by decide) rfl (Nat.le_of_ble_eq_true rfl) rfl ?_
  intro p e s m args below meth c ls E hr hlk hnm hP hl hS
  have hx := E.1.1
  have hb := E.1.2.1
  have m_1o : ct 239 = .inr (8, [.ref (fa g 240), .ref (fa g 241), .int (z 0), .ref (fa g 242), .ref (fa g 243), .ref (fa g 244), .int (z 1), .ref (fa g 245), .int (z 2), .ref (fa g 246), .ref (fa g 247), .ref (fa g 248), .int (z 3), .int (z 4), .int (z 5), .int (z 6), .int (z 7), .int (z 8), .int (z 9)]) := (hM).1
  have m_1r0 : ct 240 = .inl (fcI g, 121, .inl (F 0)) := (hM).2.1
  have m_1r1 : ct 241 = .inl (fcI g, 726, .inl (F 1)) := (hM).2.2.1
  have m_1r2 : ct 242 = .inl (fcI g, 242, .inl (F 2)) := (hM).2.2.2.1
  have m_1r3 : ct 243 = .inl (fcI g, 2, .inl (F 3)) := (hM).2.2.2.2.1
  have m_1r4 : ct 244 = .inl (fcI g, 60, .inl (F 4)) := (hM).2.2.2.2.2.1
  have m_1r5 : ct 245 = .inl (fcI g, 6, .inl (F 5)) := (hM).2.2.2.2.2.2.1
  have m_1r6 : ct 246 = .inl (fcI g, 36, .inl (F 6)) := (hM).2.2.2.2.2.2.2.1
  have m_1r7 : ct 247 = .inl (fcI g, 20, .inl (F 7)) := (hM).2.2.2.2.2.2.2.2.1
  have m_1r8 : ct 248 = .inl (fcI g, 20, .inl (F 8)) := (hM).2.2.2.2.2.2.2.2.2
  have hn3 := hG.n3
  have hn6 := hG.n6
  have hk20 := hG.k
  obtain ⟨hk5, ha0, hb4, hb5⟩ := id hok
  have hwa := hw a0 ha0
  have hb1 : b0 < 10 := by by_cases z : kd = 4
                           · have := hb4 z; omega
                           · have := (hb5 z).1; omega
  refine lv_iload_n hx hb dX8_holds_0 rfl (lv_at hl 1 rfl) ?_
  rcases Decidable.em (kd = 0) with k_1_0 | k_1_0
  · refine fs_vi (congrArg nI k_1_0) ?_
    refine lv_tableIn (off := 35) (tgt := 36) hx hb dX8_holds_1 (by decide) (by decide) rfl (by decide) ?_
    refine lv_aload_n hx hb dX8_holds_36 rfl (lv_at hl 0 rfl) ?_
    refine fs_get E hP (k := 239) (v := .ref (fa g 245)) 7 fc8 m_1o (by omega) (by decide) (wm wl_5 (i := 5) rfl) rfl dX8_holds_37 ?_
    refine lv_iload_n hx hb dX8_holds_40 rfl (lv_at hl 2 rfl) ?_
    refine fs_iald E hP (k := 245) m_1r5 (by omega) (vp_in_nI (by omega) (by omega)) dX8_holds_41 ?_
    refine fs_vi (y := (F 5) a0) (congrArg (F 5) (nI_clamp (by omega))) ?_
    refine fs_vi (y := (nI (w a0))) (hW a0 (by omega)) ?_
    refine lv_iload_n hx hb dX8_holds_42 rfl (lv_at hl 3 rfl) ?_
    refine lv_icmp_ne (tgt := 50) hx hb dX8_holds_43 (by decide) (fun c_43 => ?_) (fun c_43 => ?_)
    · rw [nI_eq (by omega) (by omega)] at c_43
      refine lv_iconst (v := (nI 0)) hx hb dX8_holds_50 (by decide) ?_
      refine fs_pzret E hr rfl hlk hS dX8_holds_51 ?_
      subst k_1_0
      exact bI_f (fun z => c_43 (of_decide_eq_true z))
    · rw [nI_eq (by omega) (by omega)] at c_43
      refine lv_iconst (v := (nI 1)) hx hb dX8_holds_46 (by decide) ?_
      refine lv_goto (tgt := 51) hx hb dX8_holds_47 (by decide) ?_
      refine fs_pzret E hr rfl hlk hS dX8_holds_51 ?_
      subst k_1_0
      exact bI_t (decide_eq_true c_43)
  rcases Decidable.em (kd = 1) with k_1_1 | k_1_1
  · refine fs_vi (congrArg nI k_1_1) ?_
    refine lv_tableIn (off := 51) (tgt := 52) hx hb dX8_holds_1 (by decide) (by decide) rfl (by decide) ?_
    refine lv_aload_n hx hb dX8_holds_52 rfl (lv_at hl 0 rfl) ?_
    refine fs_get E hP (k := 239) (v := .ref (fa g 245)) 7 fc8 m_1o (by omega) (by decide) (wm wl_5 (i := 5) rfl) rfl dX8_holds_53 ?_
    refine lv_iload_n hx hb dX8_holds_56 rfl (lv_at hl 2 rfl) ?_
    refine fs_iald E hP (k := 245) m_1r5 (by omega) (vp_in_nI (by omega) (by omega)) dX8_holds_57 ?_
    refine fs_vi (y := (F 5) a0) (congrArg (F 5) (nI_clamp (by omega))) ?_
    refine fs_vi (y := (nI (w a0))) (hW a0 (by omega)) ?_
    refine lv_iload_n hx hb dX8_holds_58 rfl (lv_at hl 3 rfl) ?_
    refine lv_icmp_eq (tgt := 66) hx hb dX8_holds_59 (by decide) (fun c_59 => ?_) (fun c_59 => ?_)
    · rw [nI_eq (by omega) (by omega)] at c_59
      refine lv_iconst (v := (nI 0)) hx hb dX8_holds_66 (by decide) ?_
      refine fs_pzret E hr rfl hlk hS dX8_holds_67 ?_
      subst k_1_1
      exact bI_f (fun z => (of_decide_eq_true z) c_59)
    · rw [nI_eq (by omega) (by omega)] at c_59
      refine lv_iconst (v := (nI 1)) hx hb dX8_holds_62 (by decide) ?_
      refine lv_goto (tgt := 67) hx hb dX8_holds_63 (by decide) ?_
      refine fs_pzret E hr rfl hlk hS dX8_holds_67 ?_
      subst k_1_1
      exact bI_t (decide_eq_true c_59)
  rcases Decidable.em (kd = 2) with k_1_2 | k_1_2
  · refine fs_vi (congrArg nI k_1_2) ?_
    refine lv_tableIn (off := 67) (tgt := 68) hx hb dX8_holds_1 (by decide) (by decide) rfl (by decide) ?_
    refine lv_aload_n hx hb dX8_holds_68 rfl (lv_at hl 0 rfl) ?_
    refine fs_get E hP (k := 239) (v := .ref (fa g 245)) 7 fc8 m_1o (by omega) (by decide) (wm wl_5 (i := 5) rfl) rfl dX8_holds_69 ?_
    refine lv_iload_n hx hb dX8_holds_72 rfl (lv_at hl 2 rfl) ?_
    refine fs_iald E hP (k := 245) m_1r5 (by omega) (vp_in_nI (by omega) (by omega)) dX8_holds_73 ?_
    refine fs_vi (y := (F 5) a0) (congrArg (F 5) (nI_clamp (by omega))) ?_
    refine fs_vi (y := (nI (w a0))) (hW a0 (by omega)) ?_
    refine lv_iload_n hx hb dX8_holds_74 rfl (lv_at hl 3 rfl) ?_
    refine lv_icmp_ne (tgt := 92) hx hb dX8_holds_75 (by decide) (fun c_75 => ?_) (fun c_75 => ?_)
    · rw [nI_eq (by omega) (by omega)] at c_75
      refine lv_iconst (v := (nI 0)) hx hb dX8_holds_92 (by decide) ?_
      refine fs_pzret E hr rfl hlk hS dX8_holds_93 ?_
      subst k_1_2
      exact bI_f (fun z => c_75 (of_decide_eq_true z).1)
    · rw [nI_eq (by omega) (by omega)] at c_75
      refine lv_aload_n hx hb dX8_holds_78 rfl (lv_at hl 0 rfl) ?_
      refine fs_get E hP (k := 239) (v := .ref (fa g 245)) 7 fc8 m_1o (by omega) (by decide) (wm wl_5 (i := 5) rfl) rfl dX8_holds_79 ?_
      have hbn : b0 < nB σ := (hb5 (by omega)).1
      have hwb := hw b0 hbn
      refine lv_iload_n hx hb dX8_holds_82 rfl (lv_at hl 3 rfl) ?_
      refine fs_iald E hP (k := 245) m_1r5 (by omega) (vp_in_nI (by omega) (by omega)) dX8_holds_83 ?_
      refine fs_vi (y := (F 5) b0) (congrArg (F 5) (nI_clamp (by omega))) ?_
      refine fs_vi (y := (nI (w b0))) (hW b0 (by omega)) ?_
      refine lv_iload_n hx hb dX8_holds_84 rfl (lv_at hl 2 rfl) ?_
      refine lv_icmp_ne (tgt := 92) hx hb dX8_holds_85 (by decide) (fun c_85 => ?_) (fun c_85 => ?_)
      · rw [nI_eq (by omega) (by omega)] at c_85
        refine lv_iconst (v := (nI 0)) hx hb dX8_holds_92 (by decide) ?_
        refine fs_pzret E hr rfl hlk hS dX8_holds_93 ?_
        subst k_1_2
        exact bI_f (fun z => c_85 (of_decide_eq_true z).2)
      · rw [nI_eq (by omega) (by omega)] at c_85
        refine lv_iconst (v := (nI 1)) hx hb dX8_holds_88 (by decide) ?_
        refine lv_goto (tgt := 93) hx hb dX8_holds_89 (by decide) ?_
        refine fs_pzret E hr rfl hlk hS dX8_holds_93 ?_
        subst k_1_2
        exact bI_t (decide_eq_true ⟨c_75, c_85⟩)
  rcases Decidable.em (kd = 3) with k_1_3 | k_1_3
  · refine fs_vi (congrArg nI k_1_3) ?_
    refine lv_tableIn (off := 93) (tgt := 94) hx hb dX8_holds_1 (by decide) (by decide) rfl (by decide) ?_
    refine lv_aload_n hx hb dX8_holds_94 rfl (lv_at hl 0 rfl) ?_
    refine fs_get E hP (k := 239) (v := .ref (fa g 245)) 7 fc8 m_1o (by omega) (by decide) (wm wl_5 (i := 5) rfl) rfl dX8_holds_95 ?_
    refine lv_iload_n hx hb dX8_holds_98 rfl (lv_at hl 2 rfl) ?_
    refine fs_iald E hP (k := 245) m_1r5 (by omega) (vp_in_nI (by omega) (by omega)) dX8_holds_99 ?_
    refine fs_vi (y := (F 5) a0) (congrArg (F 5) (nI_clamp (by omega))) ?_
    refine fs_vi (y := (nI (w a0))) (hW a0 (by omega)) ?_
    have hbn : b0 < nB σ := (hb5 (by omega)).1
    have hwb := hw b0 hbn
    refine lv_aload_n hx hb dX8_holds_100 rfl (lv_at hl 0 rfl) ?_
    refine fs_get E hP (k := 239) (v := .ref (fa g 245)) 7 fc8 m_1o (by omega) (by decide) (wm wl_5 (i := 5) rfl) rfl dX8_holds_101 ?_
    refine lv_iload_n hx hb dX8_holds_104 rfl (lv_at hl 3 rfl) ?_
    refine fs_iald E hP (k := 245) m_1r5 (by omega) (vp_in_nI (by omega) (by omega)) dX8_holds_105 ?_
    refine fs_vi (y := (F 5) b0) (congrArg (F 5) (nI_clamp (by omega))) ?_
    refine fs_vi (y := (nI (w b0))) (hW b0 (by omega)) ?_
    refine lv_icmp_ne (tgt := 113) hx hb dX8_holds_106 (by decide) (fun c_106 => ?_) (fun c_106 => ?_)
    · rw [nI_eq (by omega) (by omega)] at c_106
      refine lv_iconst (v := (nI 0)) hx hb dX8_holds_113 (by decide) ?_
      refine fs_pzret E hr rfl hlk hS dX8_holds_114 ?_
      subst k_1_3
      exact bI_f (fun z => c_106 (of_decide_eq_true z))
    · rw [nI_eq (by omega) (by omega)] at c_106
      refine lv_iconst (v := (nI 1)) hx hb dX8_holds_109 (by decide) ?_
      refine lv_goto (tgt := 114) hx hb dX8_holds_110 (by decide) ?_
      refine fs_pzret E hr rfl hlk hS dX8_holds_114 ?_
      subst k_1_3
      exact bI_t (decide_eq_true c_106)
  rcases Decidable.em (kd = 4) with k_1_4 | k_1_4
  · refine fs_vi (congrArg nI k_1_4) ?_
    refine lv_tableIn (off := 114) (tgt := 115) hx hb dX8_holds_1 (by decide) (by decide) rfl (by decide) ?_
    refine lv_aload_n hx hb dX8_holds_115 rfl (lv_at hl 0 rfl) ?_
    refine lv_iload_n hx hb dX8_holds_116 rfl (lv_at hl 2 rfl) ?_
    refine fs_pi (va_runV (As := [.int (nI a0)]) (rest := []) E.1 (c_X8_lookers l g N ct z F σ (by omega) hG hM hT w hw hW a0 (by omega)) (lk_RX8_61 E.1.2.2.2.2 ⟨Nat.le_of_ble_eq_true rfl, Nat.le_of_ble_eq_true rfl⟩) (fpreV E hP hS fc8 m_1o (by omega)) rfl rfl hl.1 rfl (lv_room (Nat.le_of_ble_eq_true rfl)) dX8_holds_117 ⟨Nat.zero_le _, Nat.zero_le _⟩) hS (fun r_117 locs p_117 hS => ?_)
    refine fs_vi (y := (nI (cN (fun p => decide (w p = a0)) (nB σ)))) p_117 ?_
    have hcn := cN_lt7 (p := fun p => decide (w p = a0)) hn6
    refine lv_iload_n hx hb dX8_holds_120 rfl (lv_at hl 3 rfl) ?_
    refine lv_icmp_ne (tgt := 128) hx hb dX8_holds_121 (by decide) (fun c_121 => ?_) (fun c_121 => ?_)
    · rw [nI_eq (by omega) (by omega)] at c_121
      refine lv_iconst (v := (nI 0)) hx hb dX8_holds_128 (by decide) ?_
      refine fs_pzret E hr rfl hlk hS dX8_holds_129 ?_
      subst k_1_4
      exact bI_f (fun z => c_121 (of_decide_eq_true z))
    · rw [nI_eq (by omega) (by omega)] at c_121
      refine lv_iconst (v := (nI 1)) hx hb dX8_holds_124 (by decide) ?_
      refine lv_goto (tgt := 129) hx hb dX8_holds_125 (by decide) ?_
      refine fs_pzret E hr rfl hlk hS dX8_holds_129 ?_
      subst k_1_4
      exact bI_t (decide_eq_true c_121)
  refine lv_tableOut (tgt := 130) hx hb dX8_holds_1 (Or.inr (by rw [nI_toInt (by omega)]; omega)) (by decide) ?_
  refine lv_aload_n hx hb dX8_holds_130 rfl (lv_at hl 0 rfl) ?_
  refine fs_get E hP (k := 239) (v := .ref (fa g 245)) 7 fc8 m_1o (by omega) (by decide) (wm wl_5 (i := 5) rfl) rfl dX8_holds_131 ?_
  refine lv_aload_n hx hb dX8_holds_134 rfl (lv_at hl 0 rfl) ?_
  refine fs_get E hP (k := 239) (v := .ref (fa g 245)) 7 fc8 m_1o (by omega) (by decide) (wm wl_5 (i := 5) rfl) rfl dX8_holds_135 ?_
  refine lv_iload_n hx hb dX8_holds_138 rfl (lv_at hl 2 rfl) ?_
  refine fs_iald E hP (k := 245) m_1r5 (by omega) (vp_in_nI (by omega) (by omega)) dX8_holds_139 ?_
  refine fs_vi (y := (F 5) a0) (congrArg (F 5) (nI_clamp (by omega))) ?_
  refine fs_vi (y := (nI (w a0))) (hW a0 (by omega)) ?_
  have hww := hw (w a0) hwa
  refine fs_iald E hP (k := 245) m_1r5 (by omega) (vp_in_nI (by omega) (by omega)) dX8_holds_140 ?_
  refine fs_vi (y := (F 5) (w a0)) (congrArg (F 5) (nI_clamp (by omega))) ?_
  refine fs_vi (y := (nI (w (w a0)))) (hW (w a0) (by omega)) ?_
  refine lv_iload_n hx hb dX8_holds_141 rfl (lv_at hl 3 rfl) ?_
  refine lv_icmp_ne (tgt := 149) hx hb dX8_holds_142 (by decide) (fun c_142 => ?_) (fun c_142 => ?_)
  · rw [nI_eq (by omega) (by omega)] at c_142
    refine lv_iconst (v := (nI 0)) hx hb dX8_holds_149 (by decide) ?_
    refine fs_pzret E hr rfl hlk hS dX8_holds_150 ?_
    obtain rfl : kd = 5 := by omega
    exact bI_f (fun z => c_142 (of_decide_eq_true z))
  · rw [nI_eq (by omega) (by omega)] at c_142
    refine lv_iconst (v := (nI 1)) hx hb dX8_holds_145 (by decide) ?_
    refine lv_goto (tgt := 150) hx hb dX8_holds_146 (by decide) ?_
    refine fs_pzret E hr rfl hlk hS dX8_holds_150 ?_
    obtain rfl : kd = 5 := by omega
    exact bI_t (decide_eq_true c_142)

set_option maxRecDepth 100000 in
set_option maxHeartbeats 4000000 in
theorem c_X8_holdsRumour (l : Launch) (g : fG) (N : Nat) (ct : Nat → va_E) (z : Nat → Int32) (F : Nat → Nat → Int32) (σ : Nat → Int32) (hN : 249 ≤ N) (hG : Good σ) (hM : MA g ct z F) (hT : SR σ F) (w : Nat → Nat) (hw : Wok (nB σ) w) (hW : WR σ w F) (r : Nat) (hr0 : r < nT σ) : Met l yX8_holdsRumour (wsU yX8_holdsRumour cX8_holdsRumour 2 (some .boolean)) rX8_holdsRumour (fPre g N ct [.ref (fa g 239), .int (nI r)]) (fQpi (fun v => v = bI (hdr σ w r = true))) 0 0 (fB g) := by
  refine fs_start (own := RX8) (lv0 := [(0, .ref (fa g 239)), (1, .int (nI r))]) (by decide) rfl (Nat.le_of_ble_eq_true rfl) rfl ?_
  intro p e s m args below meth c ls E hr hlk hnm hP hl hS
  have hx := E.1.1
  have hb := E.1.2.1
  have m_1o : ct 239 = .inr (8, [.ref (fa g 240), .ref (fa g 241), .int (z 0), .ref (fa g 242), .ref (fa g 243), .ref (fa g 244), .int (z 1), .ref (fa g 245), .int (z 2), .ref (fa g 246), .ref (fa g 247), .ref (fa g 248), .int (z 3), .int (z 4), .int (z 5), .int (z 6), .int (z 7), .int (z 8), .int (z 9)]) := (hM).1
  have m_1r0 : ct 240 = .inl (fcI g, 121, .inl (F 0)) := (hM).2.1
  have m_1r1 : ct 241 = .inl (fcI g, 726, .inl (F 1)) := (hM).2.2.1
  have m_1r2 : ct 242 = .inl (fcI g, 242, .inl (F 2)) := (hM).2.2.2.1
  have m_1r3 : ct 243 = .inl (fcI g, 2, .inl (F 3)) := (hM).2.2.2.2.1
  have m_1r4 : ct 244 = .inl (fcI g, 60, .inl (F 4)) := (hM).2.2.2.2.2.1
  have m_1r5 : ct 245 = .inl (fcI g, 6, .inl (F 5)) := (hM).2.2.2.2.2.2.1
  have m_1r6 : ct 246 = .inl (fcI g, 36, .inl (F 6)) := (hM).2.2.2.2.2.2.2.1
  have m_1r7 : ct 247 = .inl (fcI g, 20, .inl (F 7)) := (hM).2.2.2.2.2.2.2.2.1
  have m_1r8 : ct 248 = .inl (fcI g, 20, .inl (F 8)) := (hM).2.2.2.2.2.2.2.2.2
  have hn3 := hG.n3
  have hn6 := hG.n6
  have hk20 := hG.k
  refine lv_aload_n hx hb dX8_holdsRumour_0 rfl (lv_at hl 0 rfl) ?_
  refine lv_aload_n hx hb dX8_holdsRumour_1 rfl (lv_at hl 0 rfl) ?_
  refine lv_iload_n hx hb dX8_holdsRumour_2 rfl (lv_at hl 1 rfl) ?_
  refine lv_iconst (v := (nI 1)) hx hb dX8_holdsRumour_3 (by decide) ?_
  refine fs_pi (va_runV (As := [.int (nI r), .int (nI 1)]) (rest := [.ref (fa g 239)]) E.1 (c_X8_part l g N ct z F σ (by omega) hG hM hT r 1 (by omega)) (lk_RX8_53 E.1.2.2.2.2 ⟨Nat.le_of_ble_eq_true rfl, Nat.le_of_ble_eq_true rfl⟩) (fpreV E hP hS fc8 m_1o (by omega)) rfl rfl hl.1 rfl (lv_room (Nat.le_of_ble_eq_true rfl)) dX8_holdsRumour_4 ⟨Nat.zero_le _, Nat.zero_le _⟩) hS (fun r_4 locs p_4 hS => ?_)
  refine fs_vi (y := (nI (rk σ r 1))) (p_4.trans ((hG.r (by omega)).1 1 (by omega))) ?_
  refine lv_aload_n hx hb dX8_holdsRumour_7 rfl (lv_at hl 0 rfl) ?_
  refine lv_iload_n hx hb dX8_holdsRumour_8 rfl (lv_at hl 1 rfl) ?_
  refine lv_iconst (v := (nI 2)) hx hb dX8_holdsRumour_9 (by decide) ?_
  refine fs_pi (va_runV (As := [.int (nI r), .int (nI 2)]) (rest := [.int (nI (rk σ r 1)), .ref (fa g 239)]) E.1 (c_X8_part l g N ct z F σ (by omega) hG hM hT r 2 (by omega)) (lk_RX8_53 E.1.2.2.2.2 ⟨Nat.le_of_ble_eq_true rfl, Nat.le_of_ble_eq_true rfl⟩) (fpreV E hP hS fc8 m_1o (by omega)) rfl rfl hl.1 rfl (lv_room (Nat.le_of_ble_eq_true rfl)) dX8_holdsRumour_10 ⟨Nat.zero_le _, Nat.zero_le _⟩) hS (fun r_10 locs p_10 hS => ?_)
  refine fs_vi (y := (nI (rk σ r 2))) (p_10.trans ((hG.r (by omega)).1 2 (by omega))) ?_
  refine lv_aload_n hx hb dX8_holdsRumour_13 rfl (lv_at hl 0 rfl) ?_
  refine lv_iload_n hx hb dX8_holdsRumour_14 rfl (lv_at hl 1 rfl) ?_
  refine lv_iconst (v := (nI 3)) hx hb dX8_holdsRumour_15 (by decide) ?_
  refine fs_pi (va_runV (As := [.int (nI r), .int (nI 3)]) (rest := [.int (nI (rk σ r 2)), .int (nI (rk σ r 1)), .ref (fa g 239)]) E.1 (c_X8_part l g N ct z F σ (by omega) hG hM hT r 3 (by omega)) (lk_RX8_53 E.1.2.2.2.2 ⟨Nat.le_of_ble_eq_true rfl, Nat.le_of_ble_eq_true rfl⟩) (fpreV E hP hS fc8 m_1o (by omega)) rfl rfl hl.1 rfl (lv_room (Nat.le_of_ble_eq_true rfl)) dX8_holdsRumour_16 ⟨Nat.zero_le _, Nat.zero_le _⟩) hS (fun r_16 locs p_16 hS => ?_)
  refine fs_vi (y := (nI (rk σ r 3))) (p_16.trans ((hG.r (by omega)).1 3 (by omega))) ?_
  refine fs_pi (va_runV (As := [.int (nI (rk σ r 1)), .int (nI (rk σ r 2)), .int (nI (rk σ r 3))]) (rest := []) E.1 (c_X8_holds l g N ct z F σ (by omega) hG hM hT w hw hW (rk σ r 1) (rk σ r 2) (rk σ r 3) (hG.r hr0).2.2.1) (lk_RX8_65 E.1.2.2.2.2 ⟨Nat.le_of_ble_eq_true rfl, Nat.le_of_ble_eq_true rfl⟩) (fpreV E hP hS fc8 m_1o (by omega)) rfl rfl hl.1 rfl (lv_room (Nat.le_of_ble_eq_true rfl)) dX8_holdsRumour_19 ⟨Nat.zero_le _, Nat.zero_le _⟩) hS (fun r_19 locs p_19 hS => ?_)
  refine fs_pzret E hr (fb_n p_19) hlk hS dX8_holdsRumour_22 ?_
  exact p_19

set_option maxRecDepth 100000 in
set_option maxHeartbeats 4000000 in
theorem c_X8_takeTruth (l : Launch) (g : fG) (N : Nat) (ct : Nat → va_E) (z : Nat → Int32) (F : Nat → Nat → Int32) (σ : Nat → Int32) (hN : 249 ≤ N) (hG : Good σ) (hM : MA g ct z F) (hT : SR σ F) : Met l yX8_takeTruth (wsU yX8_takeTruth cX8_takeTruth 2 none) rX8_takeTruth (fPre g N ct [.ref (fa g 239)]) (fQv g N (fun ct1 => ∃ f : Nat → Int32, ct1 = fu ct 245 (.inl (fcI g, 6, .inl f)) ∧ ∀ p, p < nB σ → f p = nI (lkf σ p))) 0 0 (fB g) := by
  refine fs_start (own := RX8) (lv0 := [(0, .ref (fa g 239))]) (by decide) rfl (Nat.le_of_ble_eq_true rfl) rfl ?_
  intro p e s m args below meth c ls E hr hlk hnm hP hl hS
  have hx := E.1.1
  have hb := E.1.2.1
  have m_1o : ct 239 = .inr (8, [.ref (fa g 240), .ref (fa g 241), .int (z 0), .ref (fa g 242), .ref (fa g 243), .ref (fa g 244), .int (z 1), .ref (fa g 245), .int (z 2), .ref (fa g 246), .ref (fa g 247), .ref (fa g 248), .int (z 3), .int (z 4), .int (z 5), .int (z 6), .int (z 7), .int (z 8), .int (z 9)]) := (hM).1
  have m_1r0 : ct 240 = .inl (fcI g, 121, .inl (F 0)) := (hM).2.1
  have m_1r1 : ct 241 = .inl (fcI g, 726, .inl (F 1)) := (hM).2.2.1
  have m_1r2 : ct 242 = .inl (fcI g, 242, .inl (F 2)) := (hM).2.2.2.1
  have m_1r3 : ct 243 = .inl (fcI g, 2, .inl (F 3)) := (hM).2.2.2.2.1
  have m_1r4 : ct 244 = .inl (fcI g, 60, .inl (F 4)) := (hM).2.2.2.2.2.1
  have m_1r5 : ct 245 = .inl (fcI g, 6, .inl (F 5)) := (hM).2.2.2.2.2.2.1
  have m_1r6 : ct 246 = .inl (fcI g, 36, .inl (F 6)) := (hM).2.2.2.2.2.2.2.1
  have m_1r7 : ct 247 = .inl (fcI g, 20, .inl (F 7)) := (hM).2.2.2.2.2.2.2.2.1
  have m_1r8 : ct 248 = .inl (fcI g, 20, .inl (F 8)) := (hM).2.2.2.2.2.2.2.2.2
  have hn3 := hG.n3
  have hn6 := hG.n6
  have hk20 := hG.k
  refine lv_iconst (v := (nI 0)) hx hb dX8_takeTruth_0 (by decide) ?_
  refine lv_istore_n (lv' := [(1, .int (nI 0)), (0, .ref (fa g 239))]) hx hb dX8_takeTruth_1 rfl hl (by decide) rfl (fun ls hl => ?_)
  refine fs_ind (g := g) (N := N) (St := Nat) (fun (i : Nat) (ct_2 : Nat → va_E) (ls : Array Slot) => lv_has ls 2 [(0, .ref (fa g 239)), (1, .int (nI i))] ∧ ∃ fx : Nat → Int32, ct_2 = fu ct 245 (.inl (fcI g, 6, .inl fx)) ∧ i ≤ nB σ ∧ ∀ p, p < i → fx p = nI (lkf σ p)) (fun i => nB σ - i) ?_ 0 _ _ ls _ ⟨lv_sub hl [1, 0] rfl, ⟨_, by rw [fu_same m_1r5], by omega, fun p hp => absurd hp (by omega)⟩⟩ hP hS
  clear hl hP hS
  intro st ct_2 H ls locs hI hP hS ih
  obtain ⟨i, rfl⟩ : ∃ z, z = st := ⟨_, rfl⟩
  obtain ⟨hl, fx, hct, hI⟩ := hI
  have h_3 : ct_2 239 = .inr (8, [.ref (fa g 240), .ref (fa g 241), .int (z 0), .ref (fa g 242), .ref (fa g 243), .ref (fa g 244), .int (z 1), .ref (fa g 245), .int (z 2), .ref (fa g 246), .ref (fa g 247), .ref (fa g 248), .int (z 3), .int (z 4), .int (z 5), .int (z 6), .int (z 7), .int (z 8), .int (z 9)]) := by rw [hct]; exact (fu_ne (by omega)).trans m_1o
  have h_4 : ct_2 240 = .inl (fcI g, 121, .inl (F 0)) := by rw [hct]; exact (fu_ne (by omega)).trans m_1r0
  have h_5 : ct_2 241 = .inl (fcI g, 726, .inl (F 1)) := by rw [hct]; exact (fu_ne (by omega)).trans m_1r1
  have h_6 : ct_2 242 = .inl (fcI g, 242, .inl (F 2)) := by rw [hct]; exact (fu_ne (by omega)).trans m_1r2
  have h_7 : ct_2 243 = .inl (fcI g, 2, .inl (F 3)) := by rw [hct]; exact (fu_ne (by omega)).trans m_1r3
  have h_8 : ct_2 244 = .inl (fcI g, 60, .inl (F 4)) := by rw [hct]; exact (fu_ne (by omega)).trans m_1r4
  have h_9 : ct_2 245 = .inl (fcI g, 6, .inl fx) := by rw [hct]; exact fu_eq _ _ _
  have h_10 : ct_2 246 = .inl (fcI g, 36, .inl (F 6)) := by rw [hct]; exact (fu_ne (by omega)).trans m_1r6
  have h_11 : ct_2 247 = .inl (fcI g, 20, .inl (F 7)) := by rw [hct]; exact (fu_ne (by omega)).trans m_1r7
  have h_12 : ct_2 248 = .inl (fcI g, 20, .inl (F 8)) := by rw [hct]; exact (fu_ne (by omega)).trans m_1r8
  have hI1 := hI.1
  refine lv_iload_n hx hb dX8_takeTruth_2 rfl (lv_at hl 1 rfl) ?_
  refine lv_aload_n hx hb dX8_takeTruth_3 rfl (lv_at hl 0 rfl) ?_
  refine fs_get E hP (k := 239) (v := .ref (fa g 240)) 0 fc8 h_3 (by omega) (by decide) (wm wl_5 (i := 0) rfl) rfl dX8_takeTruth_4 ?_
  refine lv_iconst (v := (nI 0)) hx hb dX8_takeTruth_7 (by decide) ?_
  refine fs_iald E hP (k := 240) h_4 (by omega) (vp_in_nI (by omega) (by omega)) dX8_takeTruth_8 ?_
  refine fs_vi (y := (F 0) 0) (congrArg (F 0) (nI_clamp (by omega))) ?_
  refine fs_vi (y := (nI (nB σ))) (hT.n hG) ?_
  refine lv_icmp_ge (tgt := 32) hx hb dX8_takeTruth_9 (by decide) (fun c_9 => ?_) (fun c_9 => ?_)
  · rw [nI_leI (by omega) (by omega)] at c_9
    refine fs_vret E hr hlk hP hS dX8_takeTruth_32 ?_
    exact ⟨fx, hct, fun p hp => hI.2 p (by omega)⟩
  · rw [nI_leI (by omega) (by omega)] at c_9
    refine lv_aload_n hx hb dX8_takeTruth_12 rfl (lv_at hl 0 rfl) ?_
    refine fs_get E hP (k := 239) (v := .ref (fa g 245)) 7 fc8 h_3 (by omega) (by decide) (wm wl_5 (i := 5) rfl) rfl dX8_takeTruth_13 ?_
    refine lv_iload_n hx hb dX8_takeTruth_16 rfl (lv_at hl 1 rfl) ?_
    refine lv_aload_n hx hb dX8_takeTruth_17 rfl (lv_at hl 0 rfl) ?_
    refine fs_get E hP (k := 239) (v := .ref (fa g 240)) 0 fc8 h_3 (by omega) (by decide) (wm wl_5 (i := 0) rfl) rfl dX8_takeTruth_18 ?_
    refine lv_iconst (v := (nI 3)) hx hb dX8_takeTruth_21 (by decide) ?_
    refine lv_iload_n hx hb dX8_takeTruth_22 rfl (lv_at hl 1 rfl) ?_
    refine lv_iadd hx hb dX8_takeTruth_23 ?_
    refine fs_vi (y := nI (3 + i)) (nI_add _ _) ?_
    refine fs_iald E hP (k := 240) h_4 (by omega) (vp_in_nI (by omega) (by omega)) dX8_takeTruth_24 ?_
    refine fs_vi (y := (F 0) (3 + i)) (congrArg (F 0) (nI_clamp (by omega))) ?_
    refine fs_vi (y := (nI (lkf σ i))) ((hT _ (by omega)).trans (hG.2.2.1 i (by omega)).1) ?_
    refine fs_iast E hP hS (k := 245) h_9 (by omega) (vp_in_nI (by omega) (by omega)) dX8_takeTruth_25 (fun ct_13 H locs q_14 hP hS => ?_)
    rw [nI_clamp (by omega)] at q_14
    have h_15 : ct_13 239 = .inr (8, [.ref (fa g 240), .ref (fa g 241), .int (z 0), .ref (fa g 242), .ref (fa g 243), .ref (fa g 244), .int (z 1), .ref (fa g 245), .int (z 2), .ref (fa g 246), .ref (fa g 247), .ref (fa g 248), .int (z 3), .int (z 4), .int (z 5), .int (z 6), .int (z 7), .int (z 8), .int (z 9)]) := by rw [q_14]; exact (fu_ne (by omega)).trans h_3
    have h_16 : ct_13 240 = .inl (fcI g, 121, .inl (F 0)) := by rw [q_14]; exact (fu_ne (by omega)).trans h_4
    have h_17 : ct_13 241 = .inl (fcI g, 726, .inl (F 1)) := by rw [q_14]; exact (fu_ne (by omega)).trans h_5
    have h_18 : ct_13 242 = .inl (fcI g, 242, .inl (F 2)) := by rw [q_14]; exact (fu_ne (by omega)).trans h_6
    have h_19 : ct_13 243 = .inl (fcI g, 2, .inl (F 3)) := by rw [q_14]; exact (fu_ne (by omega)).trans h_7
    have h_20 : ct_13 244 = .inl (fcI g, 60, .inl (F 4)) := by rw [q_14]; exact (fu_ne (by omega)).trans h_8
    have h_21 : ct_13 245 = .inl (fcI g, 6, .inl (upd fx i (nI (lkf σ i)))) := by rw [q_14]; exact fu_eq _ _ _
    have h_22 : ct_13 246 = .inl (fcI g, 36, .inl (F 6)) := by rw [q_14]; exact (fu_ne (by omega)).trans h_10
    have h_23 : ct_13 247 = .inl (fcI g, 20, .inl (F 7)) := by rw [q_14]; exact (fu_ne (by omega)).trans h_11
    have h_24 : ct_13 248 = .inl (fcI g, 20, .inl (F 8)) := by rw [q_14]; exact (fu_ne (by omega)).trans h_12
    refine lv_iinc (v := (nI (i + 1))) (lv' := [(1, .int (nI (i + 1))), (0, .ref (fa g 239))]) hx hb dX8_takeTruth_26 hl (k := 1) rfl (nI_1 _) (by decide) rfl (fun ls hl => ?_)
    refine lv_goto (tgt := 2) hx hb dX8_takeTruth_29 (by decide) ?_
    exact ih (i + 1) _ _ ls _ (by omega) ⟨lv_sub hl [1, 0] rfl, ⟨_, by rw [q_14, hct, fu_fu], by omega, fun p hp => (Nat.lt_or_ge p i).elim (fun q => (upd_ne (by omega)).trans (hI.2 p q)) (fun q => by rw [show p = i by omega]; exact upd_eq _ _ _)⟩⟩ hP hS

set_option maxRecDepth 100000 in
set_option maxHeartbeats 4000000 in
theorem c_X8_isTrue (l : Launch) (g : fG) (N : Nat) (ct : Nat → va_E) (z : Nat → Int32) (F : Nat → Nat → Int32) (σ : Nat → Int32) (hN : 249 ≤ N) (hG : Good σ) (hM : MA g ct z F) (hT : SR σ F) (r : Nat) (hr0 : r < nT σ) : Met l yX8_isTrue (wsU yX8_isTrue cX8_isTrue 2 (some .boolean)) rX8_isTrue (fPre g N ct [.ref (fa g 239), .int (nI r)]) (fQi g N (fun v ct1 => v = bI (hdr σ (lkf σ) r = true) ∧ ∃ f : Nat → Int32, ct1 = fu ct 245 (.inl (fcI g, 6, .inl f)) ∧ ∀ p, p < nB σ → f p = nI (lkf σ p))) 0 0 (fB g) := by
  refine fs_start (own := RX8) (lv0 := [(0, .ref (fa g 239)), (1, .int (nI r))]) (by decide) rfl (Nat.le_of_ble_eq_true rfl) rfl ?_
  intro p e s m args below meth c ls E hr hlk hnm hP hl hS
  have hx := E.1.1
  have hb := E.1.2.1
  have m_1o : ct 239 = .inr (8, [.ref (fa g 240), .ref (fa g 241), .int (z 0), .ref (fa g 242), .ref (fa g 243), .ref (fa g 244), .int (z 1), .ref (fa g 245), .int (z 2), .ref (fa g 246), .ref (fa g 247), .ref (fa g 248), .int (z 3), .int (z 4), .int (z 5), .int (z 6), .int (z 7), .int (z 8), .int (z 9)]) := (hM).1
  have m_1r0 : ct 240 = .inl (fcI g, 121, .inl (F 0)) := (hM).2.1
  have m_1r1 : ct 241 = .inl (fcI g, 726, .inl (F 1)) := (hM).2.2.1
  have m_1r2 : ct 242 = .inl (fcI g, 242, .inl (F 2)) := (hM).2.2.2.1
  have m_1r3 : ct 243 = .inl (fcI g, 2, .inl (F 3)) := (hM).2.2.2.2.1
  have m_1r4 : ct 244 = .inl (fcI g, 60, .inl (F 4)) := (hM).2.2.2.2.2.1
  have m_1r5 : ct 245 = .inl (fcI g, 6, .inl (F 5)) := (hM).2.2.2.2.2.2.1
  have m_1r6 : ct 246 = .inl (fcI g, 36, .inl (F 6)) := (hM).2.2.2.2.2.2.2.1
  have m_1r7 : ct 247 = .inl (fcI g, 20, .inl (F 7)) := (hM).2.2.2.2.2.2.2.2.1
  have m_1r8 : ct 248 = .inl (fcI g, 20, .inl (F 8)) := (hM).2.2.2.2.2.2.2.2.2
  have hn3 := hG.n3
  have hn6 := hG.n6
  have hk20 := hG.k
  refine lv_aload_n hx hb dX8_isTrue_0 rfl (lv_at hl 0 rfl) ?_
  refine fs_v (va_runV (As := []) (rest := []) E.1 (c_X8_takeTruth l g N ct z F σ (by omega) hG hM hT) (lk_RX8_68 E.1.2.2.2.2 ⟨Nat.le_of_ble_eq_true rfl, Nat.le_of_ble_eq_true rfl⟩) (fpreV E hP hS fc8 m_1o (by omega)) rfl rfl hl.1 rfl (lv_room (Nat.le_of_ble_eq_true rfl)) dX8_isTrue_1 ⟨Nat.zero_le _, Nat.zero_le _⟩) hS (fun ct_2 H locs p_1 hP hS => ?_)
  obtain ⟨fw_3, ew_4, hw_5⟩ := p_1
  have M_7 := MA.f5 hM ew_4
  have m_9o : ct_2 239 = .inr (8, [.ref (fa g 240), .ref (fa g 241), .int (z 0), .ref (fa g 242), .ref (fa g 243), .ref (fa g 244), .int (z 1), .ref (fa g 245), .int (z 2), .ref (fa g 246), .ref (fa g 247), .ref (fa g 248), .int (z 3), .int (z 4), .int (z 5), .int (z 6), .int (z 7), .int (z 8), .int (z 9)]) := (M_7).1
  have m_9r0 : ct_2 240 = .inl (fcI g, 121, .inl (F 0)) := (M_7).2.1
  have m_9r1 : ct_2 241 = .inl (fcI g, 726, .inl (F 1)) := (M_7).2.2.1
  have m_9r2 : ct_2 242 = .inl (fcI g, 242, .inl (F 2)) := (M_7).2.2.2.1
  have m_9r3 : ct_2 243 = .inl (fcI g, 2, .inl (F 3)) := (M_7).2.2.2.2.1
  have m_9r4 : ct_2 244 = .inl (fcI g, 60, .inl (F 4)) := (M_7).2.2.2.2.2.1
  have m_9r5 : ct_2 245 = .inl (fcI g, 6, .inl fw_3) := (M_7).2.2.2.2.2.2.1
  have m_9r6 : ct_2 246 = .inl (fcI g, 36, .inl (F 6)) := (M_7).2.2.2.2.2.2.2.1
  have m_9r7 : ct_2 247 = .inl (fcI g, 20, .inl (F 7)) := (M_7).2.2.2.2.2.2.2.2.1
  have m_9r8 : ct_2 248 = .inl (fcI g, 20, .inl (F 8)) := (M_7).2.2.2.2.2.2.2.2.2
  have T_8 : SR σ (uF F 5 fw_3) := fun i hi => hT i hi
  have hW_6 : WR σ (lkf σ) (uF F 5 fw_3) := fun p hp => hw_5 p hp
  refine lv_aload_n hx hb dX8_isTrue_4 rfl (lv_at hl 0 rfl) ?_
  refine lv_iload_n hx hb dX8_isTrue_5 rfl (lv_at hl 1 rfl) ?_
  refine fs_pi (va_runV (As := [.int (nI r)]) (rest := []) E.1 (c_X8_holdsRumour l g N ct_2 z (uF F 5 fw_3) σ (by omega) hG M_7 T_8 (lkf σ) hG.wok hW_6 r (by omega)) (lk_RX8_71 E.1.2.2.2.2 ⟨Nat.le_of_ble_eq_true rfl, Nat.le_of_ble_eq_true rfl⟩) (fpreV E hP hS fc8 m_9o (by omega)) rfl rfl hl.1 rfl (lv_room (Nat.le_of_ble_eq_true rfl)) dX8_isTrue_6 ⟨Nat.zero_le _, Nat.zero_le _⟩) hS (fun r_6 locs p_6 hS => ?_)
  refine fs_zret E hr (fb_n p_6) hlk hP hS dX8_isTrue_9 ?_
  exact ⟨p_6, _, ew_4, hw_5⟩

set_option maxRecDepth 100000 in
set_option maxHeartbeats 4000000 in
theorem c_X8_worldsInAll (l : Launch) (g : fG) (N : Nat) (ct : Nat → va_E) (z : Nat → Int32) (F : Nat → Nat → Int32) (σ : Nat → Int32) (hN : 249 ≤ N) (hG : Good σ) (hM : MA g ct z F) (hT : SR σ F) : Met l yX8_worldsInAll (wsU yX8_worldsInAll cX8_worldsInAll 3 (some .int)) rX8_worldsInAll (fPre g N ct [.ref (fa g 239)]) (fQpi (fun r => r = nI (mM σ))) 0 0 (fB g) := by
  refine fs_start (own := RX8) (lv0 := [(0, .ref (fa g 239))]) (by decide) rfl (Nat.le_of_ble_eq_true rfl) rfl ?_
  intro p e s m args below meth c ls E hr hlk hnm hP hl hS
  have hx := E.1.1
  have hb := E.1.2.1
  have m_1o : ct 239 = .inr (8, [.ref (fa g 240), .ref (fa g 241), .int (z 0), .ref (fa g 242), .ref (fa g 243), .ref (fa g 244), .int (z 1), .ref (fa g 245), .int (z 2), .ref (fa g 246), .ref (fa g 247), .ref (fa g 248), .int (z 3), .int (z 4), .int (z 5), .int (z 6), .int (z 7), .int (z 8), .int (z 9)]) := (hM).1
  have m_1r0 : ct 240 = .inl (fcI g, 121, .inl (F 0)) := (hM).2.1
  have m_1r1 : ct 241 = .inl (fcI g, 726, .inl (F 1)) := (hM).2.2.1
  have m_1r2 : ct 242 = .inl (fcI g, 242, .inl (F 2)) := (hM).2.2.2.1
  have m_1r3 : ct 243 = .inl (fcI g, 2, .inl (F 3)) := (hM).2.2.2.2.1
  have m_1r4 : ct 244 = .inl (fcI g, 60, .inl (F 4)) := (hM).2.2.2.2.2.1
  have m_1r5 : ct 245 = .inl (fcI g, 6, .inl (F 5)) := (hM).2.2.2.2.2.2.1
  have m_1r6 : ct 246 = .inl (fcI g, 36, .inl (F 6)) := (hM).2.2.2.2.2.2.2.1
  have m_1r7 : ct 247 = .inl (fcI g, 20, .inl (F 7)) := (hM).2.2.2.2.2.2.2.2.1
  have m_1r8 : ct 248 = .inl (fcI g, 20, .inl (F 8)) := (hM).2.2.2.2.2.2.2.2.2
  have hn3 := hG.n3
  have hn6 := hG.n6
  have hk20 := hG.k
  refine lv_iconst (v := (nI 1)) hx hb dX8_worldsInAll_0 (by decide) ?_
  refine lv_istore_n (lv' := [(1, .int (nI 1)), (0, .ref (fa g 239))]) hx hb dX8_worldsInAll_1 rfl hl (by decide) rfl (fun ls hl => ?_)
  refine lv_iconst (v := (nI 0)) hx hb dX8_worldsInAll_2 (by decide) ?_
  refine lv_istore_n (lv' := [(2, .int (nI 0)), (1, .int (nI 1)), (0, .ref (fa g 239))]) hx hb dX8_worldsInAll_3 rfl hl (by decide) rfl (fun ls hl => ?_)
  refine fs_indP (g := g) (St := Nat) (fun (i : Nat) (ls : Array Slot) => lv_has ls 3 [(0, .ref (fa g 239)), (1, .int (nI ((nB σ - 1) ^ i))), (2, .int (nI i))] ∧ i ≤ nB σ) (fun (i : Nat) => nB σ - i) ?_ 0 ls _ ⟨lv_sub hl [2, 1, 0] rfl, Nat.zero_le _⟩ hS
  clear hl hS
  intro st ls locs hI hS ih
  obtain ⟨i, rfl⟩ : ∃ z, z = st := ⟨_, rfl⟩
  obtain ⟨hl, hI⟩ := hI
  refine lv_iload_n hx hb dX8_worldsInAll_4 rfl (lv_at hl 2 rfl) ?_
  refine lv_aload_n hx hb dX8_worldsInAll_5 rfl (lv_at hl 0 rfl) ?_
  refine fs_get E hP (k := 239) (v := .ref (fa g 240)) 0 fc8 m_1o (by omega) (by decide) (wm wl_5 (i := 0) rfl) rfl dX8_worldsInAll_6 ?_
  refine lv_iconst (v := (nI 0)) hx hb dX8_worldsInAll_9 (by decide) ?_
  refine fs_iald E hP (k := 240) m_1r0 (by omega) (vp_in_nI (by omega) (by omega)) dX8_worldsInAll_10 ?_
  refine fs_vi (y := (F 0) 0) (congrArg (F 0) (nI_clamp (by omega))) ?_
  refine fs_vi (y := (nI (nB σ))) (hT.n hG) ?_
  refine lv_icmp_ge (tgt := 31) hx hb dX8_worldsInAll_11 (by decide) (fun c_11 => ?_) (fun c_11 => ?_)
  · rw [nI_leI (by omega) (by omega)] at c_11
    refine lv_iload_n hx hb dX8_worldsInAll_31 rfl (lv_at hl 1 rfl) ?_
    refine fs_piret E hr hlk hS dX8_worldsInAll_32 ?_
    rw [wM_pow, show nB σ = i by omega]
  · rw [nI_leI (by omega) (by omega)] at c_11
    refine lv_iload_n hx hb dX8_worldsInAll_14 rfl (lv_at hl 1 rfl) ?_
    refine lv_aload_n hx hb dX8_worldsInAll_15 rfl (lv_at hl 0 rfl) ?_
    refine fs_get E hP (k := 239) (v := .ref (fa g 240)) 0 fc8 m_1o (by omega) (by decide) (wm wl_5 (i := 0) rfl) rfl dX8_worldsInAll_16 ?_
    refine lv_iconst (v := (nI 0)) hx hb dX8_worldsInAll_19 (by decide) ?_
    refine fs_iald E hP (k := 240) m_1r0 (by omega) (vp_in_nI (by omega) (by omega)) dX8_worldsInAll_20 ?_
    refine fs_vi (y := (F 0) 0) (congrArg (F 0) (nI_clamp (by omega))) ?_
    refine fs_vi (y := (nI (nB σ))) (hT.n hG) ?_
    refine lv_iconst (v := (nI 1)) hx hb dX8_worldsInAll_21 (by decide) ?_
    refine lv_isub hx hb dX8_worldsInAll_22 ?_
    refine fs_vi (y := (nI (nB σ - 1))) (pk_sub (by omega)) ?_
    refine lv_imul hx hb dX8_worldsInAll_23 ?_
    refine fs_vi (y := (nI ((nB σ - 1) ^ (i + 1)))) ((pk_mul _ _).trans (congrArg nI (Nat.pow_succ _ _).symm)) ?_
    refine lv_istore_n (lv' := [(1, .int (nI ((nB σ - 1) ^ (i + 1)))), (0, .ref (fa g 239)), (2, .int (nI i))]) hx hb dX8_worldsInAll_24 rfl hl (by decide) rfl (fun ls hl => ?_)
    refine lv_iinc (v := (nI (i + 1))) (lv' := [(2, .int (nI (i + 1))), (1, .int (nI ((nB σ - 1) ^ (i + 1)))), (0, .ref (fa g 239))]) hx hb dX8_worldsInAll_25 hl (k := 2) rfl (nI_1 _) (by decide) rfl (fun ls hl => ?_)
    refine lv_goto (tgt := 4) hx hb dX8_worldsInAll_28 (by decide) ?_
    exact ih (i + 1) ls _ (by (try dsimp only); omega) ⟨lv_sub hl [2, 1, 0] rfl, by omega⟩ hS
