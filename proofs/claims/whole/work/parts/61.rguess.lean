theorem crF_iff {σ : Nat → Int32} (hG : Good σ) {p b : Nat} (hp : p < nB σ) (hb : b < nB σ) : crF σ p = nI b ↔ (0 < Wn σ ∧ LKn σ p b = Wn σ) := by
  have h6 := hG.n6
  constructor
  · intro h
    by_cases y : crt σ p b = true
    · exact of_decide_eq_true y
    · exfalso
      by_cases x : ∃ c, crt σ p c = true
      · obtain ⟨c, hc⟩ := x
        have hcl := crt_lt hG hp hc
        rw [crF_hit hG hp hc, nI_eq (by omega) (by omega)] at h
        subst h; exact y hc
      · rw [crF_none (fun c _ => Bool.eq_false_iff.mpr (fun z => x ⟨c, z⟩))] at h
        exact absurd h.symm (nI_ne6 (by omega))
  · intro h; exact crF_hit hG hp (decide_eq_true h)
theorem pt_1 {σ : Nat → Int32} {p b : Nat} (h : lkf σ p = b) (h2 : 0 < Wn σ ∧ LKn σ p b = Wn σ) : nI 3 = ptF σ p b := by unfold ptF; rw [if_pos h, if_pos h2]; rfl
theorem pt_2 {σ : Nat → Int32} {p b : Nat} (h : lkf σ p = b) (h2 : ¬ (0 < Wn σ ∧ LKn σ p b = Wn σ)) : nI 5 = ptF σ p b := by unfold ptF; rw [if_pos h, if_neg h2]; rfl
theorem pt_3 {σ : Nat → Int32} {p b : Nat} (h : ¬ lkf σ p = b) (h2 : 0 < Wn σ ∧ LKn σ p b = 0) : -4 = ptF σ p b := by unfold ptF; rw [if_neg h, if_pos h2]
theorem pt_4 {σ : Nat → Int32} {p b : Nat} (h : ¬ lkf σ p = b) (h2 : ¬ (0 < Wn σ ∧ LKn σ p b = 0)) : -2 = ptF σ p b := by unfold ptF; rw [if_neg h, if_neg h2]
set_option maxRecDepth 100000 in
set_option maxHeartbeats 4000000 in
theorem c_X8_guess (l : Launch) (g : fG) (N : Nat) (ct : Nat → va_E) (σ : Nat → Int32) (k : Nat) (hs : Nat → Nat → Int32) (u1 : Bool) (s1 : Nat → Int32) (u2 : Bool) (s2 : Nat → Int32) (t : Nat → Nat) (len : Nat) (hN : 249 ≤ N) (hG : Good σ) (hR : RFAt g ct σ k hs u1 s1 u2 s2 t len) (x y v : Int32) : Met l yX8_guess (wsU yX8_guess cX8_guess 7 (some .int)) rX8_guess (fPre g N ct [.ref (fa g 239), .int x, .int y, .int v]) (fQi g N (fun r ct1 => r = (if (hbx σ x ∧ hbx σ y) ∧ hbx σ v then (if x = y ∨ y = v then -2 else if ¬ σ (15 + x.toNatClampNeg) = 0 then -5 else nI 1000 + (σ (9 + x.toNatClampNeg) + ptF σ y.toNatClampNeg v.toNatClampNeg)) else -1) ∧ RFc g ct1 (((hbx σ x ∧ hbx σ y) ∧ hbx σ v) ∧ ¬ (x = y ∨ y = v) ∧ σ (15 + x.toNatClampNeg) = 0) (upd (upd σ (9 + x.toNatClampNeg) (σ (9 + x.toNatClampNeg) + ptF σ y.toNatClampNeg v.toNatClampNeg)) (15 + x.toNatClampNeg) (nI 1)) σ k hs u1 s1 u2 s2 t len ∧ fSame 239 249 ct ct1)) 0 0 (fB g) := by
  refine fs_start (own := RX8) (lv0 := [(0, .ref (fa g 239)), (1, .int x), (2, .int y), (3, .int v)]) (by decide) rfl (Nat.le_of_ble_eq_true rfl) rfl ?_
  intro p e s m args below meth c ls E hr hlk hnm hP hl hS
  have hx := E.1.1
  have hb := E.1.2.1
  obtain ⟨z, F, hM, hT, hH, hS9, hQ⟩ := id hR
  have m_1o : ct 239 = .inr (8, [.ref (fa g 240), .ref (fa g 241), .int (z 0), .ref (fa g 242), .ref (fa g 243), .ref (fa g 244), .int (z 1), .ref (fa g 245), .int (z 2), .ref (fa g 246), .ref (fa g 247), .ref (fa g 248), .int (z 3), .int (z 4), .int (z 5), .int (z 6), .int (z 7), .int (z 8), .int (z 9)]) := (hM).1
  have m_1r0 : ct 240 = .inl (fcI g, 121, .inl (F 0)) := (hM).2.1
  have m_1r1 : ct 241 = .inl (fcI g, 726, .inl (F 1)) := (hM).2.2.1
  have m_1r2 : ct 242 = .inl (fcI g, 242, .inl (F 2)) := (hM).2.2.2.1
  have m_1r3 : ct 243 = .inl (fcI g, 2, .inl (F 3)) := (hM).2.2.2.2.1
  have m_1r4 : ct 244 = .inl (fcI g, 60, .inl (F 4)) := (hM).2.2.2.2.2.1
  have m_1r5 : ct 245 = .inl (fcI g, 6, .inl (F 5)) := (hM).2.2.2.2.2.2.1
  have m_1r6 : ct 246 = .inl (fcI g, 36, .inl (F 6)) := (hM).2.2.2.2.2.2.2.1
  have m_1r7 : ct 247 = .inl (fcI g, 20, .inl (F 7)) := (hM).2.2.2.2.2.2.2.2.1
  have m_1r8 : ct 248 = .inl (fcI g, 20, .inl (F 8)) := (hM).2.2.2.2.2.2.2.2.2
  have hn3 := hG.n3
  have hn6 := hG.n6
  have hk20 := hG.k
  have hWl := Wn_le hG
  refine lv_aload_n hx hb dX8_guess_0 rfl (lv_at hl 0 rfl) ?_
  refine lv_iload_n hx hb dX8_guess_1 rfl (lv_at hl 1 rfl) ?_
  refine fs_pi (va_runV (As := [.int x]) (rest := []) E.1 (c_X8_isBox l g N ct z F σ (by omega) hG hM hT x) (lk_RX8_57 E.1.2.2.2.2 ⟨Nat.le_of_ble_eq_true rfl, Nat.le_of_ble_eq_true rfl⟩) (fpreV E hP hS fc8 m_1o (by omega)) rfl rfl hl.1 rfl (lv_room (Nat.le_of_ble_eq_true rfl)) dX8_guess_2 ⟨Nat.zero_le _, Nat.zero_le _⟩) hS (fun r_2 locs p_2 hS => ?_)
  refine lv_if_eq (tgt := 24) hx hb dX8_guess_5 (by decide) (fun c_5 => ?_) (fun c_5 => ?_)
  · have c_5 := (fb_0 p_2).mp c_5
    refine lv_iconst (v := (-1)) hx hb dX8_guess_24 (by decide) ?_
    refine fs_iret E hr hlk hP hS dX8_guess_25 ?_
    refine ⟨?_, RFc_f (fun z => by have := z.1; omega) hR, fSame.rf⟩
    rw [if_neg (fun z => by omega)]
  · have c_5 := (fb_1 p_2).mp c_5
    refine lv_aload_n hx hb dX8_guess_8 rfl (lv_at hl 0 rfl) ?_
    refine lv_iload_n hx hb dX8_guess_9 rfl (lv_at hl 2 rfl) ?_
    refine fs_pi (va_runV (As := [.int y]) (rest := []) E.1 (c_X8_isBox l g N ct z F σ (by omega) hG hM hT y) (lk_RX8_57 E.1.2.2.2.2 ⟨Nat.le_of_ble_eq_true rfl, Nat.le_of_ble_eq_true rfl⟩) (fpreV E hP hS fc8 m_1o (by omega)) rfl rfl hl.1 rfl (lv_room (Nat.le_of_ble_eq_true rfl)) dX8_guess_10 ⟨Nat.zero_le _, Nat.zero_le _⟩) hS (fun r_10 locs p_10 hS => ?_)
    refine lv_if_eq (tgt := 24) hx hb dX8_guess_13 (by decide) (fun c_13 => ?_) (fun c_13 => ?_)
    · have c_13 := (fb_0 p_10).mp c_13
      refine lv_iconst (v := (-1)) hx hb dX8_guess_24 (by decide) ?_
      refine fs_iret E hr hlk hP hS dX8_guess_25 ?_
      refine ⟨?_, RFc_f (fun z => by have := z.1; omega) hR, fSame.rf⟩
      rw [if_neg (fun z => by omega)]
    · have c_13 := (fb_1 p_10).mp c_13
      refine lv_aload_n hx hb dX8_guess_16 rfl (lv_at hl 0 rfl) ?_
      refine lv_iload_n hx hb dX8_guess_17 rfl (lv_at hl 3 rfl) ?_
      refine fs_pi (va_runV (As := [.int v]) (rest := []) E.1 (c_X8_isBox l g N ct z F σ (by omega) hG hM hT v) (lk_RX8_57 E.1.2.2.2.2 ⟨Nat.le_of_ble_eq_true rfl, Nat.le_of_ble_eq_true rfl⟩) (fpreV E hP hS fc8 m_1o (by omega)) rfl rfl hl.1 rfl (lv_room (Nat.le_of_ble_eq_true rfl)) dX8_guess_18 ⟨Nat.zero_le _, Nat.zero_le _⟩) hS (fun r_18 locs p_18 hS => ?_)
      refine lv_if_ne (tgt := 26) hx hb dX8_guess_21 (by decide) (fun c_21 => ?_) (fun c_21 => ?_)
      · have c_21 := (fb_1 p_18).mp c_21
        refine lv_iload_n hx hb dX8_guess_26 rfl (lv_at hl 1 rfl) ?_
        refine lv_iload_n hx hb dX8_guess_27 rfl (lv_at hl 2 rfl) ?_
        refine lv_icmp_eq (tgt := 36) hx hb dX8_guess_28 (by decide) (fun c_28 => ?_) (fun c_28 => ?_)
        · refine lv_bipush (v := (-2)) hx hb dX8_guess_36 (by decide) ?_
          refine fs_iret E hr hlk hP hS dX8_guess_38 ?_
          refine ⟨?_, RFc_f (fun z => z.2.1 (Or.inl c_28)) hR, fSame.rf⟩
          rw [if_pos ⟨⟨c_5, c_13⟩, c_21⟩, if_pos (Or.inl c_28)]
        · refine lv_iload_n hx hb dX8_guess_31 rfl (lv_at hl 2 rfl) ?_
          refine lv_iload_n hx hb dX8_guess_32 rfl (lv_at hl 3 rfl) ?_
          refine lv_icmp_ne (tgt := 39) hx hb dX8_guess_33 (by decide) (fun c_33 => ?_) (fun c_33 => ?_)
          · obtain ⟨p0, hp0, rfl⟩ := fex c_5.1 c_5.2
            obtain ⟨q0, hq0, rfl⟩ := fex c_13.1 c_13.2
            obtain ⟨b0, hb0, rfl⟩ := fex c_21.1 c_21.2
            refine lv_aload_n hx hb dX8_guess_39 rfl (lv_at hl 0 rfl) ?_
            refine fs_get E hP (k := 239) (v := .ref (fa g 240)) 0 fc8 m_1o (by omega) (by decide) (wm wl_5 (i := 0) rfl) rfl dX8_guess_40 ?_
            refine lv_bipush (v := (nI 15)) hx hb dX8_guess_43 (by decide) ?_
            refine lv_iload_n hx hb dX8_guess_45 rfl (lv_at hl 1 rfl) ?_
            refine lv_iadd hx hb dX8_guess_46 ?_
            refine fs_vi (y := nI (15 + p0)) (nI_add _ _) ?_
            refine fs_iald E hP (k := 240) m_1r0 (by omega) (vp_in_nI (by omega) (by omega)) dX8_guess_47 ?_
            refine fs_vi (y := (F 0) (15 + p0)) (congrArg (F 0) (nI_clamp (by omega))) ?_
            refine fs_vi (y := (σ (15 + p0))) (hT _ (by omega)) ?_
            refine lv_iconst (v := (nI 1)) hx hb dX8_guess_48 (by decide) ?_
            refine lv_icmp_ne (tgt := 55) hx hb dX8_guess_49 (by decide) (fun c_49 => ?_) (fun c_49 => ?_)
            · have hg0 : σ (15 + p0) = 0 := (hG.2.2.2.1 p0 (by omega)).resolve_right c_49
              refine lv_aload_n hx hb dX8_guess_55 rfl (lv_at hl 0 rfl) ?_
              refine fs_v (va_runV (As := []) (rest := []) E.1 (c_X8_record l g N ct z F σ (by omega) hG hM hT k hs hH) (lk_RX8_105 E.1.2.2.2.2 ⟨Nat.le_of_ble_eq_true rfl, Nat.le_of_ble_eq_true rfl⟩) (fpreV E hP hS fc8 m_1o (by omega)) rfl rfl hl.1 rfl (lv_room (Nat.le_of_ble_eq_true rfl)) dX8_guess_56 ⟨Nat.zero_le _, Nat.zero_le _⟩) hS (fun ct_2 H locs p_56 hP hS => ?_)
              obtain ⟨z_3, F_4, M5, hRH5, e5, f50, f52, f53, f54, S_5⟩ := p_56
              have T_6 : SR σ F_4 := fun i hi => by rw [f50]; exact hT i hi
              have m_7o : ct_2 239 = .inr (8, [.ref (fa g 240), .ref (fa g 241), .int (z_3 0), .ref (fa g 242), .ref (fa g 243), .ref (fa g 244), .int (z_3 1), .ref (fa g 245), .int (z_3 2), .ref (fa g 246), .ref (fa g 247), .ref (fa g 248), .int (z_3 3), .int (z_3 4), .int (z_3 5), .int (z_3 6), .int (z_3 7), .int (z_3 8), .int (z_3 9)]) := (M5).1
              have m_7r0 : ct_2 240 = .inl (fcI g, 121, .inl (F_4 0)) := (M5).2.1
              have m_7r1 : ct_2 241 = .inl (fcI g, 726, .inl (F_4 1)) := (M5).2.2.1
              have m_7r2 : ct_2 242 = .inl (fcI g, 242, .inl (F_4 2)) := (M5).2.2.2.1
              have m_7r3 : ct_2 243 = .inl (fcI g, 2, .inl (F_4 3)) := (M5).2.2.2.2.1
              have m_7r4 : ct_2 244 = .inl (fcI g, 60, .inl (F_4 4)) := (M5).2.2.2.2.2.1
              have m_7r5 : ct_2 245 = .inl (fcI g, 6, .inl (F_4 5)) := (M5).2.2.2.2.2.2.1
              have m_7r6 : ct_2 246 = .inl (fcI g, 36, .inl (F_4 6)) := (M5).2.2.2.2.2.2.2.1
              have m_7r7 : ct_2 247 = .inl (fcI g, 20, .inl (F_4 7)) := (M5).2.2.2.2.2.2.2.2.1
              have m_7r8 : ct_2 248 = .inl (fcI g, 20, .inl (F_4 8)) := (M5).2.2.2.2.2.2.2.2.2
              refine lv_aload_n hx hb dX8_guess_59 rfl (lv_at hl 0 rfl) ?_
              refine fs_v (va_runV (As := []) (rest := []) E.1 (c_X8_goThrough l g N ct_2 z_3 F_4 σ (by omega) hG M5 T_6) (lk_RX8_102 E.1.2.2.2.2 ⟨Nat.le_of_ble_eq_true rfl, Nat.le_of_ble_eq_true rfl⟩) (fpreV E hP hS fc8 m_7o (by omega)) rfl rfl hl.1 rfl (lv_room (Nat.le_of_ble_eq_true rfl)) dX8_guess_60 ⟨Nat.zero_le _, Nat.zero_le _⟩) hS (fun ct_8 H locs p_60 hP hS => ?_)
              obtain ⟨z_9, F_10, M_11, K_12, C_13, S_14⟩ := p_60
              have T_15 := KK.sr K_12 T_6
              have m_16o : ct_8 239 = .inr (8, [.ref (fa g 240), .ref (fa g 241), .int (z_9 0), .ref (fa g 242), .ref (fa g 243), .ref (fa g 244), .int (z_9 1), .ref (fa g 245), .int (z_9 2), .ref (fa g 246), .ref (fa g 247), .ref (fa g 248), .int (z_9 3), .int (z_9 4), .int (z_9 5), .int (z_9 6), .int (z_9 7), .int (z_9 8), .int (z_9 9)]) := (M_11).1
              have m_16r0 : ct_8 240 = .inl (fcI g, 121, .inl (F_10 0)) := (M_11).2.1
              have m_16r1 : ct_8 241 = .inl (fcI g, 726, .inl (F_10 1)) := (M_11).2.2.1
              have m_16r2 : ct_8 242 = .inl (fcI g, 242, .inl (F_10 2)) := (M_11).2.2.2.1
              have m_16r3 : ct_8 243 = .inl (fcI g, 2, .inl (F_10 3)) := (M_11).2.2.2.2.1
              have m_16r4 : ct_8 244 = .inl (fcI g, 60, .inl (F_10 4)) := (M_11).2.2.2.2.2.1
              have m_16r5 : ct_8 245 = .inl (fcI g, 6, .inl (F_10 5)) := (M_11).2.2.2.2.2.2.1
              have m_16r6 : ct_8 246 = .inl (fcI g, 36, .inl (F_10 6)) := (M_11).2.2.2.2.2.2.2.1
              have m_16r7 : ct_8 247 = .inl (fcI g, 20, .inl (F_10 7)) := (M_11).2.2.2.2.2.2.2.2.1
              have m_16r8 : ct_8 248 = .inl (fcI g, 20, .inl (F_10 8)) := (M_11).2.2.2.2.2.2.2.2.2
              refine lv_aload_n hx hb dX8_guess_63 rfl (lv_at hl 0 rfl) ?_
              refine fs_get E hP (k := 239) (v := .ref (fa g 240)) 0 fc8 m_16o (by omega) (by decide) (wm wl_5 (i := 0) rfl) rfl dX8_guess_64 ?_
              refine lv_iconst (v := (nI 3)) hx hb dX8_guess_67 (by decide) ?_
              refine lv_iload_n hx hb dX8_guess_68 rfl (lv_at hl 2 rfl) ?_
              refine lv_iadd hx hb dX8_guess_69 ?_
              refine fs_vi (y := nI (3 + q0)) (nI_add _ _) ?_
              refine fs_iald E hP (k := 240) m_16r0 (by omega) (vp_in_nI (by omega) (by omega)) dX8_guess_70 ?_
              refine fs_vi (y := (F_10 0) (3 + q0)) (congrArg (F_10 0) (nI_clamp (by omega))) ?_
              refine fs_vi (y := (nI (lkf σ q0))) ((T_15 _ (by omega)).trans (hG.2.2.1 q0 hq0).1) ?_
              refine lv_iload_n hx hb dX8_guess_71 rfl (lv_at hl 3 rfl) ?_
              have hlq := (hG.2.2.1 q0 hq0).2.1
              have hLl := LK_le hG q0 b0
              refine lv_icmp_ne (tgt := 79) hx hb dX8_guess_72 (by decide) (fun c_72 => ?_) (fun c_72 => ?_)
              · rw [nI_eq (by omega) (by omega)] at c_72
                refine lv_iconst (v := (nI 0)) hx hb dX8_guess_79 (by decide) ?_
                refine lv_istore (lv' := [(4, .int (nI 0)), (0, .ref (fa g 239)), (1, .int (nI p0)), (2, .int (nI q0)), (3, .int (nI b0))]) hx hb dX8_guess_80 hl (by decide) rfl (fun ls hl => ?_)
                refine lv_aload_n hx hb dX8_guess_82 rfl (lv_at hl 1 rfl) ?_
                refine lv_iload_n hx hb dX8_guess_83 rfl (lv_at hl 3 rfl) ?_
                refine fs_pi (va_runV (As := [.int (nI q0)]) (rest := []) E.1 (c_X8_certainBox l g N ct_8 z_9 F_10 σ (by omega) hG M_11 T_15 C_13 q0 hq0) (lk_RX8_159 E.1.2.2.2.2 ⟨Nat.le_of_ble_eq_true rfl, Nat.le_of_ble_eq_true rfl⟩) (fpreV E hP hS fc8 m_16o (by omega)) rfl rfl hl.1 rfl (lv_room (Nat.le_of_ble_eq_true rfl)) dX8_guess_84 ⟨Nat.zero_le _, Nat.zero_le _⟩) hS (fun r_84 locs p_84 hS => ?_)
                refine fs_vi (y := (crF σ q0)) p_84 ?_
                refine lv_iload_n hx hb dX8_guess_87 rfl (lv_at hl 4 rfl) ?_
                refine lv_icmp_ne (tgt := 95) hx hb dX8_guess_88 (by decide) (fun c_88 => ?_) (fun c_88 => ?_)
                · refine lv_iconst (v := (nI 0)) hx hb dX8_guess_95 (by decide) ?_
                  refine lv_istore (lv' := [(5, .int (nI 0)), (4, .int (nI 0)), (0, .ref (fa g 239)), (1, .int (nI p0)), (2, .int (nI q0)), (3, .int (nI b0))]) hx hb dX8_guess_96 hl (by decide) rfl (fun ls hl => ?_)
                  refine lv_aload_n hx hb dX8_guess_98 rfl (lv_at hl 2 rfl) ?_
                  refine fs_get E hP (k := 239) (v := .int (z_9 2)) 8 fc8 m_16o (by omega) (by decide) (wm wl_21 (i := 7) rfl) rfl dX8_guess_99 ?_
                  refine fs_vi (y := nI (Wn σ)) C_13.1 ?_
                  refine lv_if_le (tgt := 123) hx hb dX8_guess_102 (by decide) (fun c_102 => ?_) (fun c_102 => ?_)
                  · rw [fz_leN (by omega)] at c_102
                    refine lv_iconst (v := (nI 0)) hx hb dX8_guess_123 (by decide) ?_
                    refine lv_istore (lv' := [(6, .int (nI 0)), (5, .int (nI 0)), (4, .int (nI 0)), (0, .ref (fa g 239)), (1, .int (nI p0)), (2, .int (nI q0)), (3, .int (nI b0))]) hx hb dX8_guess_124 hl (by decide) rfl (fun ls hl => ?_)
                    refine lv_aload_n hx hb dX8_guess_126 rfl (lv_at hl 3 rfl) ?_
                    refine fs_get E hP (k := 239) (v := .ref (fa g 240)) 0 fc8 m_16o (by omega) (by decide) (wm wl_5 (i := 0) rfl) rfl dX8_guess_127 ?_
                    refine lv_bipush (v := (nI 9)) hx hb dX8_guess_130 (by decide) ?_
                    refine lv_iload_n hx hb dX8_guess_132 rfl (lv_at hl 4 rfl) ?_
                    refine lv_iadd hx hb dX8_guess_133 ?_
                    refine fs_vi (y := nI (9 + p0)) (nI_add _ _) ?_
                    refine lv_dup2_11 hx hb dX8_guess_134 rfl rfl ?_
                    refine fs_iald E hP (k := 240) m_16r0 (by omega) (vp_in_nI (by omega) (by omega)) dX8_guess_135 ?_
                    refine fs_vi (y := (F_10 0) (9 + p0)) (congrArg (F_10 0) (nI_clamp (by omega))) ?_
                    refine fs_vi (y := (σ (9 + p0))) (T_15 _ (by omega)) ?_
                    refine lv_iload hx hb dX8_guess_136 (lv_at hl 2 rfl) ?_
                    refine lv_if_eq (tgt := 154) hx hb dX8_guess_138 (by decide) (fun c_138 => ?_) (fun c_138 => ?_)
                    rotate_left
                    · exact absurd c_138 (by decide)
                    refine lv_iload hx hb dX8_guess_154 (lv_at hl 0 rfl) ?_
                    refine lv_if_eq (tgt := 164) hx hb dX8_guess_156 (by decide) (fun c_156 => ?_) (fun c_156 => ?_)
                    rotate_left
                    · exact absurd c_156 (by decide)
                    refine lv_bipush (v := (-2)) hx hb dX8_guess_164 (by decide) ?_
                    refine fs_vi (y := ptF σ q0 b0) (pt_4 c_72 (fun y => by have := y.1; omega)) ?_
                    refine lv_iadd hx hb dX8_guess_166 ?_
                    refine fs_iast E hP hS (k := 240) m_16r0 (by omega) (vp_in_nI (by omega) (by omega)) dX8_guess_167 (fun ct_17 H locs q_18 hP hS => ?_)
                    rw [nI_clamp (by omega)] at q_18
                    have h_19 : ct_17 239 = .inr (8, [.ref (fa g 240), .ref (fa g 241), .int (z_9 0), .ref (fa g 242), .ref (fa g 243), .ref (fa g 244), .int (z_9 1), .ref (fa g 245), .int (z_9 2), .ref (fa g 246), .ref (fa g 247), .ref (fa g 248), .int (z_9 3), .int (z_9 4), .int (z_9 5), .int (z_9 6), .int (z_9 7), .int (z_9 8), .int (z_9 9)]) := by rw [q_18]; exact (fu_ne (by omega)).trans m_16o
                    have h_20 : ct_17 240 = .inl (fcI g, 121, .inl (upd (F_10 0) (9 + p0) ((σ (9 + p0)) + (ptF σ q0 b0)))) := by rw [q_18]; exact fu_eq _ _ _
                    have h_21 : ct_17 241 = .inl (fcI g, 726, .inl (F_10 1)) := by rw [q_18]; exact (fu_ne (by omega)).trans m_16r1
                    have h_22 : ct_17 242 = .inl (fcI g, 242, .inl (F_10 2)) := by rw [q_18]; exact (fu_ne (by omega)).trans m_16r2
                    have h_23 : ct_17 243 = .inl (fcI g, 2, .inl (F_10 3)) := by rw [q_18]; exact (fu_ne (by omega)).trans m_16r3
                    have h_24 : ct_17 244 = .inl (fcI g, 60, .inl (F_10 4)) := by rw [q_18]; exact (fu_ne (by omega)).trans m_16r4
                    have h_25 : ct_17 245 = .inl (fcI g, 6, .inl (F_10 5)) := by rw [q_18]; exact (fu_ne (by omega)).trans m_16r5
                    have h_26 : ct_17 246 = .inl (fcI g, 36, .inl (F_10 6)) := by rw [q_18]; exact (fu_ne (by omega)).trans m_16r6
                    have h_27 : ct_17 247 = .inl (fcI g, 20, .inl (F_10 7)) := by rw [q_18]; exact (fu_ne (by omega)).trans m_16r7
                    have h_28 : ct_17 248 = .inl (fcI g, 20, .inl (F_10 8)) := by rw [q_18]; exact (fu_ne (by omega)).trans m_16r8
                    refine lv_aload_n hx hb dX8_guess_168 rfl (lv_at hl 3 rfl) ?_
                    refine fs_get E hP (k := 239) (v := .ref (fa g 240)) 0 fc8 h_19 (by omega) (by decide) (wm wl_5 (i := 0) rfl) rfl dX8_guess_169 ?_
                    refine lv_bipush (v := (nI 15)) hx hb dX8_guess_172 (by decide) ?_
                    refine lv_iload_n hx hb dX8_guess_174 rfl (lv_at hl 4 rfl) ?_
                    refine lv_iadd hx hb dX8_guess_175 ?_
                    refine fs_vi (y := nI (15 + p0)) (nI_add _ _) ?_
                    refine lv_iconst (v := (nI 1)) hx hb dX8_guess_176 (by decide) ?_
                    refine fs_iast E hP hS (k := 240) h_20 (by omega) (vp_in_nI (by omega) (by omega)) dX8_guess_177 (fun ct_29 H locs q_30 hP hS => ?_)
                    rw [nI_clamp (by omega)] at q_30
                    have h_31 : ct_29 239 = .inr (8, [.ref (fa g 240), .ref (fa g 241), .int (z_9 0), .ref (fa g 242), .ref (fa g 243), .ref (fa g 244), .int (z_9 1), .ref (fa g 245), .int (z_9 2), .ref (fa g 246), .ref (fa g 247), .ref (fa g 248), .int (z_9 3), .int (z_9 4), .int (z_9 5), .int (z_9 6), .int (z_9 7), .int (z_9 8), .int (z_9 9)]) := by rw [q_30]; exact (fu_ne (by omega)).trans h_19
                    have h_32 : ct_29 240 = .inl (fcI g, 121, .inl (upd (upd (F_10 0) (9 + p0) ((σ (9 + p0)) + (ptF σ q0 b0))) (15 + p0) (nI 1))) := by rw [q_30]; exact fu_eq _ _ _
                    have h_33 : ct_29 241 = .inl (fcI g, 726, .inl (F_10 1)) := by rw [q_30]; exact (fu_ne (by omega)).trans h_21
                    have h_34 : ct_29 242 = .inl (fcI g, 242, .inl (F_10 2)) := by rw [q_30]; exact (fu_ne (by omega)).trans h_22
                    have h_35 : ct_29 243 = .inl (fcI g, 2, .inl (F_10 3)) := by rw [q_30]; exact (fu_ne (by omega)).trans h_23
                    have h_36 : ct_29 244 = .inl (fcI g, 60, .inl (F_10 4)) := by rw [q_30]; exact (fu_ne (by omega)).trans h_24
                    have h_37 : ct_29 245 = .inl (fcI g, 6, .inl (F_10 5)) := by rw [q_30]; exact (fu_ne (by omega)).trans h_25
                    have h_38 : ct_29 246 = .inl (fcI g, 36, .inl (F_10 6)) := by rw [q_30]; exact (fu_ne (by omega)).trans h_26
                    have h_39 : ct_29 247 = .inl (fcI g, 20, .inl (F_10 7)) := by rw [q_30]; exact (fu_ne (by omega)).trans h_27
                    have h_40 : ct_29 248 = .inl (fcI g, 20, .inl (F_10 8)) := by rw [q_30]; exact (fu_ne (by omega)).trans h_28
                    refine lv_aload_n hx hb dX8_guess_178 rfl (lv_at hl 3 rfl) ?_
                    refine fs_get E hP (k := 239) (v := .ref (fa g 240)) 0 fc8 h_31 (by omega) (by decide) (wm wl_5 (i := 0) rfl) rfl dX8_guess_179 ?_
                    refine lv_bipush (v := (nI 9)) hx hb dX8_guess_182 (by decide) ?_
                    refine lv_iload_n hx hb dX8_guess_184 rfl (lv_at hl 4 rfl) ?_
                    refine lv_iadd hx hb dX8_guess_185 ?_
                    refine fs_vi (y := nI (9 + p0)) (nI_add _ _) ?_
                    refine fs_iald E hP (k := 240) h_32 (by omega) (vp_in_nI (by omega) (by omega)) dX8_guess_186 ?_
                    refine fs_vi (y := (upd (upd (F_10 0) (9 + p0) ((σ (9 + p0)) + (ptF σ q0 b0))) (15 + p0) (nI 1)) (9 + p0)) (congrArg (upd (upd (F_10 0) (9 + p0) ((σ (9 + p0)) + (ptF σ q0 b0))) (15 + p0) (nI 1)) (nI_clamp (by omega))) ?_
                    refine fs_vi (y := (σ (9 + p0) + ptF σ q0 b0)) (by rw [upd_ne (by omega)]; exact upd_eq _ _ _) ?_
                    refine lv_sipush (v := (nI 1000)) hx hb dX8_guess_187 (by decide) ?_
                    refine lv_iadd hx hb dX8_guess_190 ?_
                    have MA8 : MA g ct_29 (mkz (z_9 0) (z_9 1) (z_9 2) (z_9 3) (z_9 4) (z_9 5) (z_9 6) (z_9 7) (z_9 8) (z_9 9)) (mkF (upd (upd (F_10 0) (9 + p0) ((σ (9 + p0)) + (ptF σ q0 b0))) (15 + p0) (nI 1)) (F_10 1) (F_10 2) (F_10 3) (F_10 4) (F_10 5) (F_10 6) (F_10 7) (F_10 8)) := ⟨h_31, h_32, h_33, h_34, h_35, h_36, h_37, h_38, h_39, h_40⟩
                    have hr9 := RH.kk hRH5 K_12
                    refine fs_iret E hr hlk hP hS dX8_guess_191 ?_
                    rw [nI_cl (show p0 < 1000000 by omega)]
                    rw [nI_cl (show q0 < 1000000 by omega)]
                    rw [nI_cl (show b0 < 1000000 by omega)]
                    refine ⟨?_, RFc_t ⟨⟨⟨c_5, c_13⟩, c_21⟩, (fun z => z.elim c_28 c_33), hg0⟩ (RFAt.ch hS9 hQ MA8 (fun i hi => upd_cg (upd_cg (T_15 i hi))) hr9 (K_12.1.2.trans e5) (K_12.2.2.2.1.trans f52) (K_12.2.2.2.2.1.trans f53) (K_12.2.2.2.2.2.trans f54)), (show fSame 239 249 _ _ from (fSame.ap (fSame.ap (fSame.tr2 (fSame.tr2 fSame.rf S_5 (by omega) (by omega)) S_14 (by omega) (by omega)) q_18 (by omega) (by omega)) q_30 (by omega) (by omega)))⟩
                    rw [if_pos ⟨⟨c_5, c_13⟩, c_21⟩, if_neg (fun z => z.elim c_28 c_33), if_neg (fun z => z hg0)]; exact Int32.add_comm _ _
                  · rw [fz_leN (by omega)] at c_102
                    refine lv_aload_n hx hb dX8_guess_105 rfl (lv_at hl 2 rfl) ?_
                    refine fs_get E hP (k := 239) (v := .ref (fa g 246)) 9 fc8 m_16o (by omega) (by decide) (wm wl_5 (i := 6) rfl) rfl dX8_guess_106 ?_
                    refine lv_bipush (v := (nI 6)) hx hb dX8_guess_109 (by decide) ?_
                    refine lv_iload_n hx hb dX8_guess_111 rfl (lv_at hl 4 rfl) ?_
                    refine lv_imul hx hb dX8_guess_112 ?_
                    refine fs_vi (y := nI (6 * q0)) (pk_mul _ _) ?_
                    refine lv_iload_n hx hb dX8_guess_113 rfl (lv_at hl 5 rfl) ?_
                    refine lv_iadd hx hb dX8_guess_114 ?_
                    refine fs_vi (y := nI (6 * q0 + b0)) (nI_add _ _) ?_
                    refine fs_iald E hP (k := 246) m_16r6 (by omega) (vp_in_nI (by omega) (by omega)) dX8_guess_115 ?_
                    refine fs_vi (y := (F_10 6) (6 * q0 + b0)) (congrArg (F_10 6) (nI_clamp (by omega))) ?_
                    refine fs_vi (y := (nI (LKn σ q0 b0))) (C_13.2.1 q0 b0 hq0 (by omega)) ?_
                    refine lv_if_ne (tgt := 123) hx hb dX8_guess_116 (by decide) (fun c_116 => ?_) (fun c_116 => ?_)
                    · rw [fz_eqN (by omega)] at c_116
                      refine lv_iconst (v := (nI 0)) hx hb dX8_guess_123 (by decide) ?_
                      refine lv_istore (lv' := [(6, .int (nI 0)), (5, .int (nI 0)), (4, .int (nI 0)), (0, .ref (fa g 239)), (1, .int (nI p0)), (2, .int (nI q0)), (3, .int (nI b0))]) hx hb dX8_guess_124 hl (by decide) rfl (fun ls hl => ?_)
                      refine lv_aload_n hx hb dX8_guess_126 rfl (lv_at hl 3 rfl) ?_
                      refine fs_get E hP (k := 239) (v := .ref (fa g 240)) 0 fc8 m_16o (by omega) (by decide) (wm wl_5 (i := 0) rfl) rfl dX8_guess_127 ?_
                      refine lv_bipush (v := (nI 9)) hx hb dX8_guess_130 (by decide) ?_
                      refine lv_iload_n hx hb dX8_guess_132 rfl (lv_at hl 4 rfl) ?_
                      refine lv_iadd hx hb dX8_guess_133 ?_
                      refine fs_vi (y := nI (9 + p0)) (nI_add _ _) ?_
                      refine lv_dup2_11 hx hb dX8_guess_134 rfl rfl ?_
                      refine fs_iald E hP (k := 240) m_16r0 (by omega) (vp_in_nI (by omega) (by omega)) dX8_guess_135 ?_
                      refine fs_vi (y := (F_10 0) (9 + p0)) (congrArg (F_10 0) (nI_clamp (by omega))) ?_
                      refine fs_vi (y := (σ (9 + p0))) (T_15 _ (by omega)) ?_
                      refine lv_iload hx hb dX8_guess_136 (lv_at hl 2 rfl) ?_
                      refine lv_if_eq (tgt := 154) hx hb dX8_guess_138 (by decide) (fun c_138 => ?_) (fun c_138 => ?_)
                      rotate_left
                      · exact absurd c_138 (by decide)
                      refine lv_iload hx hb dX8_guess_154 (lv_at hl 0 rfl) ?_
                      refine lv_if_eq (tgt := 164) hx hb dX8_guess_156 (by decide) (fun c_156 => ?_) (fun c_156 => ?_)
                      rotate_left
                      · exact absurd c_156 (by decide)
                      refine lv_bipush (v := (-2)) hx hb dX8_guess_164 (by decide) ?_
                      refine fs_vi (y := ptF σ q0 b0) (pt_4 c_72 (fun y => c_116 y.2)) ?_
                      refine lv_iadd hx hb dX8_guess_166 ?_
                      refine fs_iast E hP hS (k := 240) m_16r0 (by omega) (vp_in_nI (by omega) (by omega)) dX8_guess_167 (fun ct_41 H locs q_42 hP hS => ?_)
                      rw [nI_clamp (by omega)] at q_42
                      have h_43 : ct_41 239 = .inr (8, [.ref (fa g 240), .ref (fa g 241), .int (z_9 0), .ref (fa g 242), .ref (fa g 243), .ref (fa g 244), .int (z_9 1), .ref (fa g 245), .int (z_9 2), .ref (fa g 246), .ref (fa g 247), .ref (fa g 248), .int (z_9 3), .int (z_9 4), .int (z_9 5), .int (z_9 6), .int (z_9 7), .int (z_9 8), .int (z_9 9)]) := by rw [q_42]; exact (fu_ne (by omega)).trans m_16o
                      have h_44 : ct_41 240 = .inl (fcI g, 121, .inl (upd (F_10 0) (9 + p0) ((σ (9 + p0)) + (ptF σ q0 b0)))) := by rw [q_42]; exact fu_eq _ _ _
                      have h_45 : ct_41 241 = .inl (fcI g, 726, .inl (F_10 1)) := by rw [q_42]; exact (fu_ne (by omega)).trans m_16r1
                      have h_46 : ct_41 242 = .inl (fcI g, 242, .inl (F_10 2)) := by rw [q_42]; exact (fu_ne (by omega)).trans m_16r2
                      have h_47 : ct_41 243 = .inl (fcI g, 2, .inl (F_10 3)) := by rw [q_42]; exact (fu_ne (by omega)).trans m_16r3
                      have h_48 : ct_41 244 = .inl (fcI g, 60, .inl (F_10 4)) := by rw [q_42]; exact (fu_ne (by omega)).trans m_16r4
                      have h_49 : ct_41 245 = .inl (fcI g, 6, .inl (F_10 5)) := by rw [q_42]; exact (fu_ne (by omega)).trans m_16r5
                      have h_50 : ct_41 246 = .inl (fcI g, 36, .inl (F_10 6)) := by rw [q_42]; exact (fu_ne (by omega)).trans m_16r6
                      have h_51 : ct_41 247 = .inl (fcI g, 20, .inl (F_10 7)) := by rw [q_42]; exact (fu_ne (by omega)).trans m_16r7
                      have h_52 : ct_41 248 = .inl (fcI g, 20, .inl (F_10 8)) := by rw [q_42]; exact (fu_ne (by omega)).trans m_16r8
                      refine lv_aload_n hx hb dX8_guess_168 rfl (lv_at hl 3 rfl) ?_
                      refine fs_get E hP (k := 239) (v := .ref (fa g 240)) 0 fc8 h_43 (by omega) (by decide) (wm wl_5 (i := 0) rfl) rfl dX8_guess_169 ?_
                      refine lv_bipush (v := (nI 15)) hx hb dX8_guess_172 (by decide) ?_
                      refine lv_iload_n hx hb dX8_guess_174 rfl (lv_at hl 4 rfl) ?_
                      refine lv_iadd hx hb dX8_guess_175 ?_
                      refine fs_vi (y := nI (15 + p0)) (nI_add _ _) ?_
                      refine lv_iconst (v := (nI 1)) hx hb dX8_guess_176 (by decide) ?_
                      refine fs_iast E hP hS (k := 240) h_44 (by omega) (vp_in_nI (by omega) (by omega)) dX8_guess_177 (fun ct_53 H locs q_54 hP hS => ?_)
                      rw [nI_clamp (by omega)] at q_54
                      have h_55 : ct_53 239 = .inr (8, [.ref (fa g 240), .ref (fa g 241), .int (z_9 0), .ref (fa g 242), .ref (fa g 243), .ref (fa g 244), .int (z_9 1), .ref (fa g 245), .int (z_9 2), .ref (fa g 246), .ref (fa g 247), .ref (fa g 248), .int (z_9 3), .int (z_9 4), .int (z_9 5), .int (z_9 6), .int (z_9 7), .int (z_9 8), .int (z_9 9)]) := by rw [q_54]; exact (fu_ne (by omega)).trans h_43
                      have h_56 : ct_53 240 = .inl (fcI g, 121, .inl (upd (upd (F_10 0) (9 + p0) ((σ (9 + p0)) + (ptF σ q0 b0))) (15 + p0) (nI 1))) := by rw [q_54]; exact fu_eq _ _ _
                      have h_57 : ct_53 241 = .inl (fcI g, 726, .inl (F_10 1)) := by rw [q_54]; exact (fu_ne (by omega)).trans h_45
                      have h_58 : ct_53 242 = .inl (fcI g, 242, .inl (F_10 2)) := by rw [q_54]; exact (fu_ne (by omega)).trans h_46
                      have h_59 : ct_53 243 = .inl (fcI g, 2, .inl (F_10 3)) := by rw [q_54]; exact (fu_ne (by omega)).trans h_47
                      have h_60 : ct_53 244 = .inl (fcI g, 60, .inl (F_10 4)) := by rw [q_54]; exact (fu_ne (by omega)).trans h_48
                      have h_61 : ct_53 245 = .inl (fcI g, 6, .inl (F_10 5)) := by rw [q_54]; exact (fu_ne (by omega)).trans h_49
                      have h_62 : ct_53 246 = .inl (fcI g, 36, .inl (F_10 6)) := by rw [q_54]; exact (fu_ne (by omega)).trans h_50
                      have h_63 : ct_53 247 = .inl (fcI g, 20, .inl (F_10 7)) := by rw [q_54]; exact (fu_ne (by omega)).trans h_51
                      have h_64 : ct_53 248 = .inl (fcI g, 20, .inl (F_10 8)) := by rw [q_54]; exact (fu_ne (by omega)).trans h_52
                      refine lv_aload_n hx hb dX8_guess_178 rfl (lv_at hl 3 rfl) ?_
                      refine fs_get E hP (k := 239) (v := .ref (fa g 240)) 0 fc8 h_55 (by omega) (by decide) (wm wl_5 (i := 0) rfl) rfl dX8_guess_179 ?_
                      refine lv_bipush (v := (nI 9)) hx hb dX8_guess_182 (by decide) ?_
                      refine lv_iload_n hx hb dX8_guess_184 rfl (lv_at hl 4 rfl) ?_
                      refine lv_iadd hx hb dX8_guess_185 ?_
                      refine fs_vi (y := nI (9 + p0)) (nI_add _ _) ?_
                      refine fs_iald E hP (k := 240) h_56 (by omega) (vp_in_nI (by omega) (by omega)) dX8_guess_186 ?_
                      refine fs_vi (y := (upd (upd (F_10 0) (9 + p0) ((σ (9 + p0)) + (ptF σ q0 b0))) (15 + p0) (nI 1)) (9 + p0)) (congrArg (upd (upd (F_10 0) (9 + p0) ((σ (9 + p0)) + (ptF σ q0 b0))) (15 + p0) (nI 1)) (nI_clamp (by omega))) ?_
                      refine fs_vi (y := (σ (9 + p0) + ptF σ q0 b0)) (by rw [upd_ne (by omega)]; exact upd_eq _ _ _) ?_
                      refine lv_sipush (v := (nI 1000)) hx hb dX8_guess_187 (by decide) ?_
                      refine lv_iadd hx hb dX8_guess_190 ?_
                      have MA8 : MA g ct_53 (mkz (z_9 0) (z_9 1) (z_9 2) (z_9 3) (z_9 4) (z_9 5) (z_9 6) (z_9 7) (z_9 8) (z_9 9)) (mkF (upd (upd (F_10 0) (9 + p0) ((σ (9 + p0)) + (ptF σ q0 b0))) (15 + p0) (nI 1)) (F_10 1) (F_10 2) (F_10 3) (F_10 4) (F_10 5) (F_10 6) (F_10 7) (F_10 8)) := ⟨h_55, h_56, h_57, h_58, h_59, h_60, h_61, h_62, h_63, h_64⟩
                      have hr9 := RH.kk hRH5 K_12
                      refine fs_iret E hr hlk hP hS dX8_guess_191 ?_
                      rw [nI_cl (show p0 < 1000000 by omega)]
                      rw [nI_cl (show q0 < 1000000 by omega)]
                      rw [nI_cl (show b0 < 1000000 by omega)]
                      refine ⟨?_, RFc_t ⟨⟨⟨c_5, c_13⟩, c_21⟩, (fun z => z.elim c_28 c_33), hg0⟩ (RFAt.ch hS9 hQ MA8 (fun i hi => upd_cg (upd_cg (T_15 i hi))) hr9 (K_12.1.2.trans e5) (K_12.2.2.2.1.trans f52) (K_12.2.2.2.2.1.trans f53) (K_12.2.2.2.2.2.trans f54)), (show fSame 239 249 _ _ from (fSame.ap (fSame.ap (fSame.tr2 (fSame.tr2 fSame.rf S_5 (by omega) (by omega)) S_14 (by omega) (by omega)) q_42 (by omega) (by omega)) q_54 (by omega) (by omega)))⟩
                      rw [if_pos ⟨⟨c_5, c_13⟩, c_21⟩, if_neg (fun z => z.elim c_28 c_33), if_neg (fun z => z hg0)]; exact Int32.add_comm _ _
                    · rw [fz_eqN (by omega)] at c_116
                      refine lv_iconst (v := (nI 1)) hx hb dX8_guess_119 (by decide) ?_
                      refine lv_goto (tgt := 124) hx hb dX8_guess_120 (by decide) ?_
                      refine lv_istore (lv' := [(6, .int (nI 1)), (5, .int (nI 0)), (4, .int (nI 0)), (0, .ref (fa g 239)), (1, .int (nI p0)), (2, .int (nI q0)), (3, .int (nI b0))]) hx hb dX8_guess_124 hl (by decide) rfl (fun ls hl => ?_)
                      refine lv_aload_n hx hb dX8_guess_126 rfl (lv_at hl 3 rfl) ?_
                      refine fs_get E hP (k := 239) (v := .ref (fa g 240)) 0 fc8 m_16o (by omega) (by decide) (wm wl_5 (i := 0) rfl) rfl dX8_guess_127 ?_
                      refine lv_bipush (v := (nI 9)) hx hb dX8_guess_130 (by decide) ?_
                      refine lv_iload_n hx hb dX8_guess_132 rfl (lv_at hl 4 rfl) ?_
                      refine lv_iadd hx hb dX8_guess_133 ?_
                      refine fs_vi (y := nI (9 + p0)) (nI_add _ _) ?_
                      refine lv_dup2_11 hx hb dX8_guess_134 rfl rfl ?_
                      refine fs_iald E hP (k := 240) m_16r0 (by omega) (vp_in_nI (by omega) (by omega)) dX8_guess_135 ?_
                      refine fs_vi (y := (F_10 0) (9 + p0)) (congrArg (F_10 0) (nI_clamp (by omega))) ?_
                      refine fs_vi (y := (σ (9 + p0))) (T_15 _ (by omega)) ?_
                      refine lv_iload hx hb dX8_guess_136 (lv_at hl 2 rfl) ?_
                      refine lv_if_eq (tgt := 154) hx hb dX8_guess_138 (by decide) (fun c_138 => ?_) (fun c_138 => ?_)
                      rotate_left
                      · exact absurd c_138 (by decide)
                      refine lv_iload hx hb dX8_guess_154 (lv_at hl 0 rfl) ?_
                      refine lv_if_eq (tgt := 164) hx hb dX8_guess_156 (by decide) (fun c_156 => ?_) (fun c_156 => ?_)
                      · exact absurd c_156 (by decide)
                      refine lv_bipush (v := (-4)) hx hb dX8_guess_159 (by decide) ?_
                      refine lv_goto (tgt := 166) hx hb dX8_guess_161 (by decide) ?_
                      refine fs_vi (y := ptF σ q0 b0) (pt_3 c_72 ⟨by omega, c_116⟩) ?_
                      refine lv_iadd hx hb dX8_guess_166 ?_
                      refine fs_iast E hP hS (k := 240) m_16r0 (by omega) (vp_in_nI (by omega) (by omega)) dX8_guess_167 (fun ct_65 H locs q_66 hP hS => ?_)
                      rw [nI_clamp (by omega)] at q_66
                      have h_67 : ct_65 239 = .inr (8, [.ref (fa g 240), .ref (fa g 241), .int (z_9 0), .ref (fa g 242), .ref (fa g 243), .ref (fa g 244), .int (z_9 1), .ref (fa g 245), .int (z_9 2), .ref (fa g 246), .ref (fa g 247), .ref (fa g 248), .int (z_9 3), .int (z_9 4), .int (z_9 5), .int (z_9 6), .int (z_9 7), .int (z_9 8), .int (z_9 9)]) := by rw [q_66]; exact (fu_ne (by omega)).trans m_16o
                      have h_68 : ct_65 240 = .inl (fcI g, 121, .inl (upd (F_10 0) (9 + p0) ((σ (9 + p0)) + (ptF σ q0 b0)))) := by rw [q_66]; exact fu_eq _ _ _
                      have h_69 : ct_65 241 = .inl (fcI g, 726, .inl (F_10 1)) := by rw [q_66]; exact (fu_ne (by omega)).trans m_16r1
                      have h_70 : ct_65 242 = .inl (fcI g, 242, .inl (F_10 2)) := by rw [q_66]; exact (fu_ne (by omega)).trans m_16r2
                      have h_71 : ct_65 243 = .inl (fcI g, 2, .inl (F_10 3)) := by rw [q_66]; exact (fu_ne (by omega)).trans m_16r3
                      have h_72 : ct_65 244 = .inl (fcI g, 60, .inl (F_10 4)) := by rw [q_66]; exact (fu_ne (by omega)).trans m_16r4
                      have h_73 : ct_65 245 = .inl (fcI g, 6, .inl (F_10 5)) := by rw [q_66]; exact (fu_ne (by omega)).trans m_16r5
                      have h_74 : ct_65 246 = .inl (fcI g, 36, .inl (F_10 6)) := by rw [q_66]; exact (fu_ne (by omega)).trans m_16r6
                      have h_75 : ct_65 247 = .inl (fcI g, 20, .inl (F_10 7)) := by rw [q_66]; exact (fu_ne (by omega)).trans m_16r7
                      have h_76 : ct_65 248 = .inl (fcI g, 20, .inl (F_10 8)) := by rw [q_66]; exact (fu_ne (by omega)).trans m_16r8
                      refine lv_aload_n hx hb dX8_guess_168 rfl (lv_at hl 3 rfl) ?_
                      refine fs_get E hP (k := 239) (v := .ref (fa g 240)) 0 fc8 h_67 (by omega) (by decide) (wm wl_5 (i := 0) rfl) rfl dX8_guess_169 ?_
                      refine lv_bipush (v := (nI 15)) hx hb dX8_guess_172 (by decide) ?_
                      refine lv_iload_n hx hb dX8_guess_174 rfl (lv_at hl 4 rfl) ?_
                      refine lv_iadd hx hb dX8_guess_175 ?_
                      refine fs_vi (y := nI (15 + p0)) (nI_add _ _) ?_
                      refine lv_iconst (v := (nI 1)) hx hb dX8_guess_176 (by decide) ?_
                      refine fs_iast E hP hS (k := 240) h_68 (by omega) (vp_in_nI (by omega) (by omega)) dX8_guess_177 (fun ct_77 H locs q_78 hP hS => ?_)
                      rw [nI_clamp (by omega)] at q_78
                      have h_79 : ct_77 239 = .inr (8, [.ref (fa g 240), .ref (fa g 241), .int (z_9 0), .ref (fa g 242), .ref (fa g 243), .ref (fa g 244), .int (z_9 1), .ref (fa g 245), .int (z_9 2), .ref (fa g 246), .ref (fa g 247), .ref (fa g 248), .int (z_9 3), .int (z_9 4), .int (z_9 5), .int (z_9 6), .int (z_9 7), .int (z_9 8), .int (z_9 9)]) := by rw [q_78]; exact (fu_ne (by omega)).trans h_67
                      have h_80 : ct_77 240 = .inl (fcI g, 121, .inl (upd (upd (F_10 0) (9 + p0) ((σ (9 + p0)) + (ptF σ q0 b0))) (15 + p0) (nI 1))) := by rw [q_78]; exact fu_eq _ _ _
                      have h_81 : ct_77 241 = .inl (fcI g, 726, .inl (F_10 1)) := by rw [q_78]; exact (fu_ne (by omega)).trans h_69
                      have h_82 : ct_77 242 = .inl (fcI g, 242, .inl (F_10 2)) := by rw [q_78]; exact (fu_ne (by omega)).trans h_70
                      have h_83 : ct_77 243 = .inl (fcI g, 2, .inl (F_10 3)) := by rw [q_78]; exact (fu_ne (by omega)).trans h_71
                      have h_84 : ct_77 244 = .inl (fcI g, 60, .inl (F_10 4)) := by rw [q_78]; exact (fu_ne (by omega)).trans h_72
                      have h_85 : ct_77 245 = .inl (fcI g, 6, .inl (F_10 5)) := by rw [q_78]; exact (fu_ne (by omega)).trans h_73
                      have h_86 : ct_77 246 = .inl (fcI g, 36, .inl (F_10 6)) := by rw [q_78]; exact (fu_ne (by omega)).trans h_74
                      have h_87 : ct_77 247 = .inl (fcI g, 20, .inl (F_10 7)) := by rw [q_78]; exact (fu_ne (by omega)).trans h_75
                      have h_88 : ct_77 248 = .inl (fcI g, 20, .inl (F_10 8)) := by rw [q_78]; exact (fu_ne (by omega)).trans h_76
                      refine lv_aload_n hx hb dX8_guess_178 rfl (lv_at hl 3 rfl) ?_
                      refine fs_get E hP (k := 239) (v := .ref (fa g 240)) 0 fc8 h_79 (by omega) (by decide) (wm wl_5 (i := 0) rfl) rfl dX8_guess_179 ?_
                      refine lv_bipush (v := (nI 9)) hx hb dX8_guess_182 (by decide) ?_
                      refine lv_iload_n hx hb dX8_guess_184 rfl (lv_at hl 4 rfl) ?_
                      refine lv_iadd hx hb dX8_guess_185 ?_
                      refine fs_vi (y := nI (9 + p0)) (nI_add _ _) ?_
                      refine fs_iald E hP (k := 240) h_80 (by omega) (vp_in_nI (by omega) (by omega)) dX8_guess_186 ?_
                      refine fs_vi (y := (upd (upd (F_10 0) (9 + p0) ((σ (9 + p0)) + (ptF σ q0 b0))) (15 + p0) (nI 1)) (9 + p0)) (congrArg (upd (upd (F_10 0) (9 + p0) ((σ (9 + p0)) + (ptF σ q0 b0))) (15 + p0) (nI 1)) (nI_clamp (by omega))) ?_
                      refine fs_vi (y := (σ (9 + p0) + ptF σ q0 b0)) (by rw [upd_ne (by omega)]; exact upd_eq _ _ _) ?_
                      refine lv_sipush (v := (nI 1000)) hx hb dX8_guess_187 (by decide) ?_
                      refine lv_iadd hx hb dX8_guess_190 ?_
                      have MA8 : MA g ct_77 (mkz (z_9 0) (z_9 1) (z_9 2) (z_9 3) (z_9 4) (z_9 5) (z_9 6) (z_9 7) (z_9 8) (z_9 9)) (mkF (upd (upd (F_10 0) (9 + p0) ((σ (9 + p0)) + (ptF σ q0 b0))) (15 + p0) (nI 1)) (F_10 1) (F_10 2) (F_10 3) (F_10 4) (F_10 5) (F_10 6) (F_10 7) (F_10 8)) := ⟨h_79, h_80, h_81, h_82, h_83, h_84, h_85, h_86, h_87, h_88⟩
                      have hr9 := RH.kk hRH5 K_12
                      refine fs_iret E hr hlk hP hS dX8_guess_191 ?_
                      rw [nI_cl (show p0 < 1000000 by omega)]
                      rw [nI_cl (show q0 < 1000000 by omega)]
                      rw [nI_cl (show b0 < 1000000 by omega)]
                      refine ⟨?_, RFc_t ⟨⟨⟨c_5, c_13⟩, c_21⟩, (fun z => z.elim c_28 c_33), hg0⟩ (RFAt.ch hS9 hQ MA8 (fun i hi => upd_cg (upd_cg (T_15 i hi))) hr9 (K_12.1.2.trans e5) (K_12.2.2.2.1.trans f52) (K_12.2.2.2.2.1.trans f53) (K_12.2.2.2.2.2.trans f54)), (show fSame 239 249 _ _ from (fSame.ap (fSame.ap (fSame.tr2 (fSame.tr2 fSame.rf S_5 (by omega) (by omega)) S_14 (by omega) (by omega)) q_66 (by omega) (by omega)) q_78 (by omega) (by omega)))⟩
                      rw [if_pos ⟨⟨c_5, c_13⟩, c_21⟩, if_neg (fun z => z.elim c_28 c_33), if_neg (fun z => z hg0)]; exact Int32.add_comm _ _
                · refine lv_iconst (v := (nI 1)) hx hb dX8_guess_91 (by decide) ?_
                  refine lv_goto (tgt := 96) hx hb dX8_guess_92 (by decide) ?_
                  refine lv_istore (lv' := [(5, .int (nI 1)), (4, .int (nI 0)), (0, .ref (fa g 239)), (1, .int (nI p0)), (2, .int (nI q0)), (3, .int (nI b0))]) hx hb dX8_guess_96 hl (by decide) rfl (fun ls hl => ?_)
                  refine lv_aload_n hx hb dX8_guess_98 rfl (lv_at hl 2 rfl) ?_
                  refine fs_get E hP (k := 239) (v := .int (z_9 2)) 8 fc8 m_16o (by omega) (by decide) (wm wl_21 (i := 7) rfl) rfl dX8_guess_99 ?_
                  refine fs_vi (y := nI (Wn σ)) C_13.1 ?_
                  refine lv_if_le (tgt := 123) hx hb dX8_guess_102 (by decide) (fun c_102 => ?_) (fun c_102 => ?_)
                  · rw [fz_leN (by omega)] at c_102
                    refine lv_iconst (v := (nI 0)) hx hb dX8_guess_123 (by decide) ?_
                    refine lv_istore (lv' := [(6, .int (nI 0)), (5, .int (nI 1)), (4, .int (nI 0)), (0, .ref (fa g 239)), (1, .int (nI p0)), (2, .int (nI q0)), (3, .int (nI b0))]) hx hb dX8_guess_124 hl (by decide) rfl (fun ls hl => ?_)
                    refine lv_aload_n hx hb dX8_guess_126 rfl (lv_at hl 3 rfl) ?_
                    refine fs_get E hP (k := 239) (v := .ref (fa g 240)) 0 fc8 m_16o (by omega) (by decide) (wm wl_5 (i := 0) rfl) rfl dX8_guess_127 ?_
                    refine lv_bipush (v := (nI 9)) hx hb dX8_guess_130 (by decide) ?_
                    refine lv_iload_n hx hb dX8_guess_132 rfl (lv_at hl 4 rfl) ?_
                    refine lv_iadd hx hb dX8_guess_133 ?_
                    refine fs_vi (y := nI (9 + p0)) (nI_add _ _) ?_
                    refine lv_dup2_11 hx hb dX8_guess_134 rfl rfl ?_
                    refine fs_iald E hP (k := 240) m_16r0 (by omega) (vp_in_nI (by omega) (by omega)) dX8_guess_135 ?_
                    refine fs_vi (y := (F_10 0) (9 + p0)) (congrArg (F_10 0) (nI_clamp (by omega))) ?_
                    refine fs_vi (y := (σ (9 + p0))) (T_15 _ (by omega)) ?_
                    refine lv_iload hx hb dX8_guess_136 (lv_at hl 2 rfl) ?_
                    refine lv_if_eq (tgt := 154) hx hb dX8_guess_138 (by decide) (fun c_138 => ?_) (fun c_138 => ?_)
                    rotate_left
                    · exact absurd c_138 (by decide)
                    refine lv_iload hx hb dX8_guess_154 (lv_at hl 0 rfl) ?_
                    refine lv_if_eq (tgt := 164) hx hb dX8_guess_156 (by decide) (fun c_156 => ?_) (fun c_156 => ?_)
                    rotate_left
                    · exact absurd c_156 (by decide)
                    refine lv_bipush (v := (-2)) hx hb dX8_guess_164 (by decide) ?_
                    refine fs_vi (y := ptF σ q0 b0) (pt_4 c_72 (fun y => by have := y.1; omega)) ?_
                    refine lv_iadd hx hb dX8_guess_166 ?_
                    refine fs_iast E hP hS (k := 240) m_16r0 (by omega) (vp_in_nI (by omega) (by omega)) dX8_guess_167 (fun ct_89 H locs q_90 hP hS => ?_)
                    rw [nI_clamp (by omega)] at q_90
                    have h_91 : ct_89 239 = .inr (8, [.ref (fa g 240), .ref (fa g 241), .int (z_9 0), .ref (fa g 242), .ref (fa g 243), .ref (fa g 244), .int (z_9 1), .ref (fa g 245), .int (z_9 2), .ref (fa g 246), .ref (fa g 247), .ref (fa g 248), .int (z_9 3), .int (z_9 4), .int (z_9 5), .int (z_9 6), .int (z_9 7), .int (z_9 8), .int (z_9 9)]) := by rw [q_90]; exact (fu_ne (by omega)).trans m_16o
                    have h_92 : ct_89 240 = .inl (fcI g, 121, .inl (upd (F_10 0) (9 + p0) ((σ (9 + p0)) + (ptF σ q0 b0)))) := by rw [q_90]; exact fu_eq _ _ _
                    have h_93 : ct_89 241 = .inl (fcI g, 726, .inl (F_10 1)) := by rw [q_90]; exact (fu_ne (by omega)).trans m_16r1
                    have h_94 : ct_89 242 = .inl (fcI g, 242, .inl (F_10 2)) := by rw [q_90]; exact (fu_ne (by omega)).trans m_16r2
                    have h_95 : ct_89 243 = .inl (fcI g, 2, .inl (F_10 3)) := by rw [q_90]; exact (fu_ne (by omega)).trans m_16r3
                    have h_96 : ct_89 244 = .inl (fcI g, 60, .inl (F_10 4)) := by rw [q_90]; exact (fu_ne (by omega)).trans m_16r4
                    have h_97 : ct_89 245 = .inl (fcI g, 6, .inl (F_10 5)) := by rw [q_90]; exact (fu_ne (by omega)).trans m_16r5
                    have h_98 : ct_89 246 = .inl (fcI g, 36, .inl (F_10 6)) := by rw [q_90]; exact (fu_ne (by omega)).trans m_16r6
                    have h_99 : ct_89 247 = .inl (fcI g, 20, .inl (F_10 7)) := by rw [q_90]; exact (fu_ne (by omega)).trans m_16r7
                    have h_100 : ct_89 248 = .inl (fcI g, 20, .inl (F_10 8)) := by rw [q_90]; exact (fu_ne (by omega)).trans m_16r8
                    refine lv_aload_n hx hb dX8_guess_168 rfl (lv_at hl 3 rfl) ?_
                    refine fs_get E hP (k := 239) (v := .ref (fa g 240)) 0 fc8 h_91 (by omega) (by decide) (wm wl_5 (i := 0) rfl) rfl dX8_guess_169 ?_
                    refine lv_bipush (v := (nI 15)) hx hb dX8_guess_172 (by decide) ?_
                    refine lv_iload_n hx hb dX8_guess_174 rfl (lv_at hl 4 rfl) ?_
                    refine lv_iadd hx hb dX8_guess_175 ?_
                    refine fs_vi (y := nI (15 + p0)) (nI_add _ _) ?_
                    refine lv_iconst (v := (nI 1)) hx hb dX8_guess_176 (by decide) ?_
                    refine fs_iast E hP hS (k := 240) h_92 (by omega) (vp_in_nI (by omega) (by omega)) dX8_guess_177 (fun ct_101 H locs q_102 hP hS => ?_)
                    rw [nI_clamp (by omega)] at q_102
                    have h_103 : ct_101 239 = .inr (8, [.ref (fa g 240), .ref (fa g 241), .int (z_9 0), .ref (fa g 242), .ref (fa g 243), .ref (fa g 244), .int (z_9 1), .ref (fa g 245), .int (z_9 2), .ref (fa g 246), .ref (fa g 247), .ref (fa g 248), .int (z_9 3), .int (z_9 4), .int (z_9 5), .int (z_9 6), .int (z_9 7), .int (z_9 8), .int (z_9 9)]) := by rw [q_102]; exact (fu_ne (by omega)).trans h_91
                    have h_104 : ct_101 240 = .inl (fcI g, 121, .inl (upd (upd (F_10 0) (9 + p0) ((σ (9 + p0)) + (ptF σ q0 b0))) (15 + p0) (nI 1))) := by rw [q_102]; exact fu_eq _ _ _
                    have h_105 : ct_101 241 = .inl (fcI g, 726, .inl (F_10 1)) := by rw [q_102]; exact (fu_ne (by omega)).trans h_93
                    have h_106 : ct_101 242 = .inl (fcI g, 242, .inl (F_10 2)) := by rw [q_102]; exact (fu_ne (by omega)).trans h_94
                    have h_107 : ct_101 243 = .inl (fcI g, 2, .inl (F_10 3)) := by rw [q_102]; exact (fu_ne (by omega)).trans h_95
                    have h_108 : ct_101 244 = .inl (fcI g, 60, .inl (F_10 4)) := by rw [q_102]; exact (fu_ne (by omega)).trans h_96
                    have h_109 : ct_101 245 = .inl (fcI g, 6, .inl (F_10 5)) := by rw [q_102]; exact (fu_ne (by omega)).trans h_97
                    have h_110 : ct_101 246 = .inl (fcI g, 36, .inl (F_10 6)) := by rw [q_102]; exact (fu_ne (by omega)).trans h_98
                    have h_111 : ct_101 247 = .inl (fcI g, 20, .inl (F_10 7)) := by rw [q_102]; exact (fu_ne (by omega)).trans h_99
                    have h_112 : ct_101 248 = .inl (fcI g, 20, .inl (F_10 8)) := by rw [q_102]; exact (fu_ne (by omega)).trans h_100
                    refine lv_aload_n hx hb dX8_guess_178 rfl (lv_at hl 3 rfl) ?_
                    refine fs_get E hP (k := 239) (v := .ref (fa g 240)) 0 fc8 h_103 (by omega) (by decide) (wm wl_5 (i := 0) rfl) rfl dX8_guess_179 ?_
                    refine lv_bipush (v := (nI 9)) hx hb dX8_guess_182 (by decide) ?_
                    refine lv_iload_n hx hb dX8_guess_184 rfl (lv_at hl 4 rfl) ?_
                    refine lv_iadd hx hb dX8_guess_185 ?_
                    refine fs_vi (y := nI (9 + p0)) (nI_add _ _) ?_
                    refine fs_iald E hP (k := 240) h_104 (by omega) (vp_in_nI (by omega) (by omega)) dX8_guess_186 ?_
                    refine fs_vi (y := (upd (upd (F_10 0) (9 + p0) ((σ (9 + p0)) + (ptF σ q0 b0))) (15 + p0) (nI 1)) (9 + p0)) (congrArg (upd (upd (F_10 0) (9 + p0) ((σ (9 + p0)) + (ptF σ q0 b0))) (15 + p0) (nI 1)) (nI_clamp (by omega))) ?_
                    refine fs_vi (y := (σ (9 + p0) + ptF σ q0 b0)) (by rw [upd_ne (by omega)]; exact upd_eq _ _ _) ?_
                    refine lv_sipush (v := (nI 1000)) hx hb dX8_guess_187 (by decide) ?_
                    refine lv_iadd hx hb dX8_guess_190 ?_
                    have MA8 : MA g ct_101 (mkz (z_9 0) (z_9 1) (z_9 2) (z_9 3) (z_9 4) (z_9 5) (z_9 6) (z_9 7) (z_9 8) (z_9 9)) (mkF (upd (upd (F_10 0) (9 + p0) ((σ (9 + p0)) + (ptF σ q0 b0))) (15 + p0) (nI 1)) (F_10 1) (F_10 2) (F_10 3) (F_10 4) (F_10 5) (F_10 6) (F_10 7) (F_10 8)) := ⟨h_103, h_104, h_105, h_106, h_107, h_108, h_109, h_110, h_111, h_112⟩
                    have hr9 := RH.kk hRH5 K_12
                    refine fs_iret E hr hlk hP hS dX8_guess_191 ?_
                    rw [nI_cl (show p0 < 1000000 by omega)]
                    rw [nI_cl (show q0 < 1000000 by omega)]
                    rw [nI_cl (show b0 < 1000000 by omega)]
                    refine ⟨?_, RFc_t ⟨⟨⟨c_5, c_13⟩, c_21⟩, (fun z => z.elim c_28 c_33), hg0⟩ (RFAt.ch hS9 hQ MA8 (fun i hi => upd_cg (upd_cg (T_15 i hi))) hr9 (K_12.1.2.trans e5) (K_12.2.2.2.1.trans f52) (K_12.2.2.2.2.1.trans f53) (K_12.2.2.2.2.2.trans f54)), (show fSame 239 249 _ _ from (fSame.ap (fSame.ap (fSame.tr2 (fSame.tr2 fSame.rf S_5 (by omega) (by omega)) S_14 (by omega) (by omega)) q_90 (by omega) (by omega)) q_102 (by omega) (by omega)))⟩
                    rw [if_pos ⟨⟨c_5, c_13⟩, c_21⟩, if_neg (fun z => z.elim c_28 c_33), if_neg (fun z => z hg0)]; exact Int32.add_comm _ _
                  · rw [fz_leN (by omega)] at c_102
                    refine lv_aload_n hx hb dX8_guess_105 rfl (lv_at hl 2 rfl) ?_
                    refine fs_get E hP (k := 239) (v := .ref (fa g 246)) 9 fc8 m_16o (by omega) (by decide) (wm wl_5 (i := 6) rfl) rfl dX8_guess_106 ?_
                    refine lv_bipush (v := (nI 6)) hx hb dX8_guess_109 (by decide) ?_
                    refine lv_iload_n hx hb dX8_guess_111 rfl (lv_at hl 4 rfl) ?_
                    refine lv_imul hx hb dX8_guess_112 ?_
                    refine fs_vi (y := nI (6 * q0)) (pk_mul _ _) ?_
                    refine lv_iload_n hx hb dX8_guess_113 rfl (lv_at hl 5 rfl) ?_
                    refine lv_iadd hx hb dX8_guess_114 ?_
                    refine fs_vi (y := nI (6 * q0 + b0)) (nI_add _ _) ?_
                    refine fs_iald E hP (k := 246) m_16r6 (by omega) (vp_in_nI (by omega) (by omega)) dX8_guess_115 ?_
                    refine fs_vi (y := (F_10 6) (6 * q0 + b0)) (congrArg (F_10 6) (nI_clamp (by omega))) ?_
                    refine fs_vi (y := (nI (LKn σ q0 b0))) (C_13.2.1 q0 b0 hq0 (by omega)) ?_
                    refine lv_if_ne (tgt := 123) hx hb dX8_guess_116 (by decide) (fun c_116 => ?_) (fun c_116 => ?_)
                    · rw [fz_eqN (by omega)] at c_116
                      refine lv_iconst (v := (nI 0)) hx hb dX8_guess_123 (by decide) ?_
                      refine lv_istore (lv' := [(6, .int (nI 0)), (5, .int (nI 1)), (4, .int (nI 0)), (0, .ref (fa g 239)), (1, .int (nI p0)), (2, .int (nI q0)), (3, .int (nI b0))]) hx hb dX8_guess_124 hl (by decide) rfl (fun ls hl => ?_)
                      refine lv_aload_n hx hb dX8_guess_126 rfl (lv_at hl 3 rfl) ?_
                      refine fs_get E hP (k := 239) (v := .ref (fa g 240)) 0 fc8 m_16o (by omega) (by decide) (wm wl_5 (i := 0) rfl) rfl dX8_guess_127 ?_
                      refine lv_bipush (v := (nI 9)) hx hb dX8_guess_130 (by decide) ?_
                      refine lv_iload_n hx hb dX8_guess_132 rfl (lv_at hl 4 rfl) ?_
                      refine lv_iadd hx hb dX8_guess_133 ?_
                      refine fs_vi (y := nI (9 + p0)) (nI_add _ _) ?_
                      refine lv_dup2_11 hx hb dX8_guess_134 rfl rfl ?_
                      refine fs_iald E hP (k := 240) m_16r0 (by omega) (vp_in_nI (by omega) (by omega)) dX8_guess_135 ?_
                      refine fs_vi (y := (F_10 0) (9 + p0)) (congrArg (F_10 0) (nI_clamp (by omega))) ?_
                      refine fs_vi (y := (σ (9 + p0))) (T_15 _ (by omega)) ?_
                      refine lv_iload hx hb dX8_guess_136 (lv_at hl 2 rfl) ?_
                      refine lv_if_eq (tgt := 154) hx hb dX8_guess_138 (by decide) (fun c_138 => ?_) (fun c_138 => ?_)
                      rotate_left
                      · exact absurd c_138 (by decide)
                      refine lv_iload hx hb dX8_guess_154 (lv_at hl 0 rfl) ?_
                      refine lv_if_eq (tgt := 164) hx hb dX8_guess_156 (by decide) (fun c_156 => ?_) (fun c_156 => ?_)
                      rotate_left
                      · exact absurd c_156 (by decide)
                      refine lv_bipush (v := (-2)) hx hb dX8_guess_164 (by decide) ?_
                      refine fs_vi (y := ptF σ q0 b0) (pt_4 c_72 (fun y => c_116 y.2)) ?_
                      refine lv_iadd hx hb dX8_guess_166 ?_
                      refine fs_iast E hP hS (k := 240) m_16r0 (by omega) (vp_in_nI (by omega) (by omega)) dX8_guess_167 (fun ct_113 H locs q_114 hP hS => ?_)
                      rw [nI_clamp (by omega)] at q_114
                      have h_115 : ct_113 239 = .inr (8, [.ref (fa g 240), .ref (fa g 241), .int (z_9 0), .ref (fa g 242), .ref (fa g 243), .ref (fa g 244), .int (z_9 1), .ref (fa g 245), .int (z_9 2), .ref (fa g 246), .ref (fa g 247), .ref (fa g 248), .int (z_9 3), .int (z_9 4), .int (z_9 5), .int (z_9 6), .int (z_9 7), .int (z_9 8), .int (z_9 9)]) := by rw [q_114]; exact (fu_ne (by omega)).trans m_16o
                      have h_116 : ct_113 240 = .inl (fcI g, 121, .inl (upd (F_10 0) (9 + p0) ((σ (9 + p0)) + (ptF σ q0 b0)))) := by rw [q_114]; exact fu_eq _ _ _
                      have h_117 : ct_113 241 = .inl (fcI g, 726, .inl (F_10 1)) := by rw [q_114]; exact (fu_ne (by omega)).trans m_16r1
                      have h_118 : ct_113 242 = .inl (fcI g, 242, .inl (F_10 2)) := by rw [q_114]; exact (fu_ne (by omega)).trans m_16r2
                      have h_119 : ct_113 243 = .inl (fcI g, 2, .inl (F_10 3)) := by rw [q_114]; exact (fu_ne (by omega)).trans m_16r3
                      have h_120 : ct_113 244 = .inl (fcI g, 60, .inl (F_10 4)) := by rw [q_114]; exact (fu_ne (by omega)).trans m_16r4
                      have h_121 : ct_113 245 = .inl (fcI g, 6, .inl (F_10 5)) := by rw [q_114]; exact (fu_ne (by omega)).trans m_16r5
                      have h_122 : ct_113 246 = .inl (fcI g, 36, .inl (F_10 6)) := by rw [q_114]; exact (fu_ne (by omega)).trans m_16r6
                      have h_123 : ct_113 247 = .inl (fcI g, 20, .inl (F_10 7)) := by rw [q_114]; exact (fu_ne (by omega)).trans m_16r7
                      have h_124 : ct_113 248 = .inl (fcI g, 20, .inl (F_10 8)) := by rw [q_114]; exact (fu_ne (by omega)).trans m_16r8
                      refine lv_aload_n hx hb dX8_guess_168 rfl (lv_at hl 3 rfl) ?_
                      refine fs_get E hP (k := 239) (v := .ref (fa g 240)) 0 fc8 h_115 (by omega) (by decide) (wm wl_5 (i := 0) rfl) rfl dX8_guess_169 ?_
                      refine lv_bipush (v := (nI 15)) hx hb dX8_guess_172 (by decide) ?_
                      refine lv_iload_n hx hb dX8_guess_174 rfl (lv_at hl 4 rfl) ?_
                      refine lv_iadd hx hb dX8_guess_175 ?_
                      refine fs_vi (y := nI (15 + p0)) (nI_add _ _) ?_
                      refine lv_iconst (v := (nI 1)) hx hb dX8_guess_176 (by decide) ?_
                      refine fs_iast E hP hS (k := 240) h_116 (by omega) (vp_in_nI (by omega) (by omega)) dX8_guess_177 (fun ct_125 H locs q_126 hP hS => ?_)
                      rw [nI_clamp (by omega)] at q_126
                      have h_127 : ct_125 239 = .inr (8, [.ref (fa g 240), .ref (fa g 241), .int (z_9 0), .ref (fa g 242), .ref (fa g 243), .ref (fa g 244), .int (z_9 1), .ref (fa g 245), .int (z_9 2), .ref (fa g 246), .ref (fa g 247), .ref (fa g 248), .int (z_9 3), .int (z_9 4), .int (z_9 5), .int (z_9 6), .int (z_9 7), .int (z_9 8), .int (z_9 9)]) := by rw [q_126]; exact (fu_ne (by omega)).trans h_115
                      have h_128 : ct_125 240 = .inl (fcI g, 121, .inl (upd (upd (F_10 0) (9 + p0) ((σ (9 + p0)) + (ptF σ q0 b0))) (15 + p0) (nI 1))) := by rw [q_126]; exact fu_eq _ _ _
                      have h_129 : ct_125 241 = .inl (fcI g, 726, .inl (F_10 1)) := by rw [q_126]; exact (fu_ne (by omega)).trans h_117
                      have h_130 : ct_125 242 = .inl (fcI g, 242, .inl (F_10 2)) := by rw [q_126]; exact (fu_ne (by omega)).trans h_118
                      have h_131 : ct_125 243 = .inl (fcI g, 2, .inl (F_10 3)) := by rw [q_126]; exact (fu_ne (by omega)).trans h_119
                      have h_132 : ct_125 244 = .inl (fcI g, 60, .inl (F_10 4)) := by rw [q_126]; exact (fu_ne (by omega)).trans h_120
                      have h_133 : ct_125 245 = .inl (fcI g, 6, .inl (F_10 5)) := by rw [q_126]; exact (fu_ne (by omega)).trans h_121
                      have h_134 : ct_125 246 = .inl (fcI g, 36, .inl (F_10 6)) := by rw [q_126]; exact (fu_ne (by omega)).trans h_122
                      have h_135 : ct_125 247 = .inl (fcI g, 20, .inl (F_10 7)) := by rw [q_126]; exact (fu_ne (by omega)).trans h_123
                      have h_136 : ct_125 248 = .inl (fcI g, 20, .inl (F_10 8)) := by rw [q_126]; exact (fu_ne (by omega)).trans h_124
                      refine lv_aload_n hx hb dX8_guess_178 rfl (lv_at hl 3 rfl) ?_
                      refine fs_get E hP (k := 239) (v := .ref (fa g 240)) 0 fc8 h_127 (by omega) (by decide) (wm wl_5 (i := 0) rfl) rfl dX8_guess_179 ?_
                      refine lv_bipush (v := (nI 9)) hx hb dX8_guess_182 (by decide) ?_
                      refine lv_iload_n hx hb dX8_guess_184 rfl (lv_at hl 4 rfl) ?_
                      refine lv_iadd hx hb dX8_guess_185 ?_
                      refine fs_vi (y := nI (9 + p0)) (nI_add _ _) ?_
                      refine fs_iald E hP (k := 240) h_128 (by omega) (vp_in_nI (by omega) (by omega)) dX8_guess_186 ?_
                      refine fs_vi (y := (upd (upd (F_10 0) (9 + p0) ((σ (9 + p0)) + (ptF σ q0 b0))) (15 + p0) (nI 1)) (9 + p0)) (congrArg (upd (upd (F_10 0) (9 + p0) ((σ (9 + p0)) + (ptF σ q0 b0))) (15 + p0) (nI 1)) (nI_clamp (by omega))) ?_
                      refine fs_vi (y := (σ (9 + p0) + ptF σ q0 b0)) (by rw [upd_ne (by omega)]; exact upd_eq _ _ _) ?_
                      refine lv_sipush (v := (nI 1000)) hx hb dX8_guess_187 (by decide) ?_
                      refine lv_iadd hx hb dX8_guess_190 ?_
                      have MA8 : MA g ct_125 (mkz (z_9 0) (z_9 1) (z_9 2) (z_9 3) (z_9 4) (z_9 5) (z_9 6) (z_9 7) (z_9 8) (z_9 9)) (mkF (upd (upd (F_10 0) (9 + p0) ((σ (9 + p0)) + (ptF σ q0 b0))) (15 + p0) (nI 1)) (F_10 1) (F_10 2) (F_10 3) (F_10 4) (F_10 5) (F_10 6) (F_10 7) (F_10 8)) := ⟨h_127, h_128, h_129, h_130, h_131, h_132, h_133, h_134, h_135, h_136⟩
                      have hr9 := RH.kk hRH5 K_12
                      refine fs_iret E hr hlk hP hS dX8_guess_191 ?_
                      rw [nI_cl (show p0 < 1000000 by omega)]
                      rw [nI_cl (show q0 < 1000000 by omega)]
                      rw [nI_cl (show b0 < 1000000 by omega)]
                      refine ⟨?_, RFc_t ⟨⟨⟨c_5, c_13⟩, c_21⟩, (fun z => z.elim c_28 c_33), hg0⟩ (RFAt.ch hS9 hQ MA8 (fun i hi => upd_cg (upd_cg (T_15 i hi))) hr9 (K_12.1.2.trans e5) (K_12.2.2.2.1.trans f52) (K_12.2.2.2.2.1.trans f53) (K_12.2.2.2.2.2.trans f54)), (show fSame 239 249 _ _ from (fSame.ap (fSame.ap (fSame.tr2 (fSame.tr2 fSame.rf S_5 (by omega) (by omega)) S_14 (by omega) (by omega)) q_114 (by omega) (by omega)) q_126 (by omega) (by omega)))⟩
                      rw [if_pos ⟨⟨c_5, c_13⟩, c_21⟩, if_neg (fun z => z.elim c_28 c_33), if_neg (fun z => z hg0)]; exact Int32.add_comm _ _
                    · rw [fz_eqN (by omega)] at c_116
                      refine lv_iconst (v := (nI 1)) hx hb dX8_guess_119 (by decide) ?_
                      refine lv_goto (tgt := 124) hx hb dX8_guess_120 (by decide) ?_
                      refine lv_istore (lv' := [(6, .int (nI 1)), (5, .int (nI 1)), (4, .int (nI 0)), (0, .ref (fa g 239)), (1, .int (nI p0)), (2, .int (nI q0)), (3, .int (nI b0))]) hx hb dX8_guess_124 hl (by decide) rfl (fun ls hl => ?_)
                      refine lv_aload_n hx hb dX8_guess_126 rfl (lv_at hl 3 rfl) ?_
                      refine fs_get E hP (k := 239) (v := .ref (fa g 240)) 0 fc8 m_16o (by omega) (by decide) (wm wl_5 (i := 0) rfl) rfl dX8_guess_127 ?_
                      refine lv_bipush (v := (nI 9)) hx hb dX8_guess_130 (by decide) ?_
                      refine lv_iload_n hx hb dX8_guess_132 rfl (lv_at hl 4 rfl) ?_
                      refine lv_iadd hx hb dX8_guess_133 ?_
                      refine fs_vi (y := nI (9 + p0)) (nI_add _ _) ?_
                      refine lv_dup2_11 hx hb dX8_guess_134 rfl rfl ?_
                      refine fs_iald E hP (k := 240) m_16r0 (by omega) (vp_in_nI (by omega) (by omega)) dX8_guess_135 ?_
                      refine fs_vi (y := (F_10 0) (9 + p0)) (congrArg (F_10 0) (nI_clamp (by omega))) ?_
                      refine fs_vi (y := (σ (9 + p0))) (T_15 _ (by omega)) ?_
                      refine lv_iload hx hb dX8_guess_136 (lv_at hl 2 rfl) ?_
                      refine lv_if_eq (tgt := 154) hx hb dX8_guess_138 (by decide) (fun c_138 => ?_) (fun c_138 => ?_)
                      rotate_left
                      · exact absurd c_138 (by decide)
                      refine lv_iload hx hb dX8_guess_154 (lv_at hl 0 rfl) ?_
                      refine lv_if_eq (tgt := 164) hx hb dX8_guess_156 (by decide) (fun c_156 => ?_) (fun c_156 => ?_)
                      · exact absurd c_156 (by decide)
                      refine lv_bipush (v := (-4)) hx hb dX8_guess_159 (by decide) ?_
                      refine lv_goto (tgt := 166) hx hb dX8_guess_161 (by decide) ?_
                      refine fs_vi (y := ptF σ q0 b0) (pt_3 c_72 ⟨by omega, c_116⟩) ?_
                      refine lv_iadd hx hb dX8_guess_166 ?_
                      refine fs_iast E hP hS (k := 240) m_16r0 (by omega) (vp_in_nI (by omega) (by omega)) dX8_guess_167 (fun ct_137 H locs q_138 hP hS => ?_)
                      rw [nI_clamp (by omega)] at q_138
                      have h_139 : ct_137 239 = .inr (8, [.ref (fa g 240), .ref (fa g 241), .int (z_9 0), .ref (fa g 242), .ref (fa g 243), .ref (fa g 244), .int (z_9 1), .ref (fa g 245), .int (z_9 2), .ref (fa g 246), .ref (fa g 247), .ref (fa g 248), .int (z_9 3), .int (z_9 4), .int (z_9 5), .int (z_9 6), .int (z_9 7), .int (z_9 8), .int (z_9 9)]) := by rw [q_138]; exact (fu_ne (by omega)).trans m_16o
                      have h_140 : ct_137 240 = .inl (fcI g, 121, .inl (upd (F_10 0) (9 + p0) ((σ (9 + p0)) + (ptF σ q0 b0)))) := by rw [q_138]; exact fu_eq _ _ _
                      have h_141 : ct_137 241 = .inl (fcI g, 726, .inl (F_10 1)) := by rw [q_138]; exact (fu_ne (by omega)).trans m_16r1
                      have h_142 : ct_137 242 = .inl (fcI g, 242, .inl (F_10 2)) := by rw [q_138]; exact (fu_ne (by omega)).trans m_16r2
                      have h_143 : ct_137 243 = .inl (fcI g, 2, .inl (F_10 3)) := by rw [q_138]; exact (fu_ne (by omega)).trans m_16r3
                      have h_144 : ct_137 244 = .inl (fcI g, 60, .inl (F_10 4)) := by rw [q_138]; exact (fu_ne (by omega)).trans m_16r4
                      have h_145 : ct_137 245 = .inl (fcI g, 6, .inl (F_10 5)) := by rw [q_138]; exact (fu_ne (by omega)).trans m_16r5
                      have h_146 : ct_137 246 = .inl (fcI g, 36, .inl (F_10 6)) := by rw [q_138]; exact (fu_ne (by omega)).trans m_16r6
                      have h_147 : ct_137 247 = .inl (fcI g, 20, .inl (F_10 7)) := by rw [q_138]; exact (fu_ne (by omega)).trans m_16r7
                      have h_148 : ct_137 248 = .inl (fcI g, 20, .inl (F_10 8)) := by rw [q_138]; exact (fu_ne (by omega)).trans m_16r8
                      refine lv_aload_n hx hb dX8_guess_168 rfl (lv_at hl 3 rfl) ?_
                      refine fs_get E hP (k := 239) (v := .ref (fa g 240)) 0 fc8 h_139 (by omega) (by decide) (wm wl_5 (i := 0) rfl) rfl dX8_guess_169 ?_
                      refine lv_bipush (v := (nI 15)) hx hb dX8_guess_172 (by decide) ?_
                      refine lv_iload_n hx hb dX8_guess_174 rfl (lv_at hl 4 rfl) ?_
                      refine lv_iadd hx hb dX8_guess_175 ?_
                      refine fs_vi (y := nI (15 + p0)) (nI_add _ _) ?_
                      refine lv_iconst (v := (nI 1)) hx hb dX8_guess_176 (by decide) ?_
                      refine fs_iast E hP hS (k := 240) h_140 (by omega) (vp_in_nI (by omega) (by omega)) dX8_guess_177 (fun ct_149 H locs q_150 hP hS => ?_)
                      rw [nI_clamp (by omega)] at q_150
                      have h_151 : ct_149 239 = .inr (8, [.ref (fa g 240), .ref (fa g 241), .int (z_9 0), .ref (fa g 242), .ref (fa g 243), .ref (fa g 244), .int (z_9 1), .ref (fa g 245), .int (z_9 2), .ref (fa g 246), .ref (fa g 247), .ref (fa g 248), .int (z_9 3), .int (z_9 4), .int (z_9 5), .int (z_9 6), .int (z_9 7), .int (z_9 8), .int (z_9 9)]) := by rw [q_150]; exact (fu_ne (by omega)).trans h_139
                      have h_152 : ct_149 240 = .inl (fcI g, 121, .inl (upd (upd (F_10 0) (9 + p0) ((σ (9 + p0)) + (ptF σ q0 b0))) (15 + p0) (nI 1))) := by rw [q_150]; exact fu_eq _ _ _
                      have h_153 : ct_149 241 = .inl (fcI g, 726, .inl (F_10 1)) := by rw [q_150]; exact (fu_ne (by omega)).trans h_141
                      have h_154 : ct_149 242 = .inl (fcI g, 242, .inl (F_10 2)) := by rw [q_150]; exact (fu_ne (by omega)).trans h_142
                      have h_155 : ct_149 243 = .inl (fcI g, 2, .inl (F_10 3)) := by rw [q_150]; exact (fu_ne (by omega)).trans h_143
                      have h_156 : ct_149 244 = .inl (fcI g, 60, .inl (F_10 4)) := by rw [q_150]; exact (fu_ne (by omega)).trans h_144
                      have h_157 : ct_149 245 = .inl (fcI g, 6, .inl (F_10 5)) := by rw [q_150]; exact (fu_ne (by omega)).trans h_145
                      have h_158 : ct_149 246 = .inl (fcI g, 36, .inl (F_10 6)) := by rw [q_150]; exact (fu_ne (by omega)).trans h_146
                      have h_159 : ct_149 247 = .inl (fcI g, 20, .inl (F_10 7)) := by rw [q_150]; exact (fu_ne (by omega)).trans h_147
                      have h_160 : ct_149 248 = .inl (fcI g, 20, .inl (F_10 8)) := by rw [q_150]; exact (fu_ne (by omega)).trans h_148
                      refine lv_aload_n hx hb dX8_guess_178 rfl (lv_at hl 3 rfl) ?_
                      refine fs_get E hP (k := 239) (v := .ref (fa g 240)) 0 fc8 h_151 (by omega) (by decide) (wm wl_5 (i := 0) rfl) rfl dX8_guess_179 ?_
                      refine lv_bipush (v := (nI 9)) hx hb dX8_guess_182 (by decide) ?_
                      refine lv_iload_n hx hb dX8_guess_184 rfl (lv_at hl 4 rfl) ?_
                      refine lv_iadd hx hb dX8_guess_185 ?_
                      refine fs_vi (y := nI (9 + p0)) (nI_add _ _) ?_
                      refine fs_iald E hP (k := 240) h_152 (by omega) (vp_in_nI (by omega) (by omega)) dX8_guess_186 ?_
                      refine fs_vi (y := (upd (upd (F_10 0) (9 + p0) ((σ (9 + p0)) + (ptF σ q0 b0))) (15 + p0) (nI 1)) (9 + p0)) (congrArg (upd (upd (F_10 0) (9 + p0) ((σ (9 + p0)) + (ptF σ q0 b0))) (15 + p0) (nI 1)) (nI_clamp (by omega))) ?_
                      refine fs_vi (y := (σ (9 + p0) + ptF σ q0 b0)) (by rw [upd_ne (by omega)]; exact upd_eq _ _ _) ?_
                      refine lv_sipush (v := (nI 1000)) hx hb dX8_guess_187 (by decide) ?_
                      refine lv_iadd hx hb dX8_guess_190 ?_
                      have MA8 : MA g ct_149 (mkz (z_9 0) (z_9 1) (z_9 2) (z_9 3) (z_9 4) (z_9 5) (z_9 6) (z_9 7) (z_9 8) (z_9 9)) (mkF (upd (upd (F_10 0) (9 + p0) ((σ (9 + p0)) + (ptF σ q0 b0))) (15 + p0) (nI 1)) (F_10 1) (F_10 2) (F_10 3) (F_10 4) (F_10 5) (F_10 6) (F_10 7) (F_10 8)) := ⟨h_151, h_152, h_153, h_154, h_155, h_156, h_157, h_158, h_159, h_160⟩
                      have hr9 := RH.kk hRH5 K_12
                      refine fs_iret E hr hlk hP hS dX8_guess_191 ?_
                      rw [nI_cl (show p0 < 1000000 by omega)]
                      rw [nI_cl (show q0 < 1000000 by omega)]
                      rw [nI_cl (show b0 < 1000000 by omega)]
                      refine ⟨?_, RFc_t ⟨⟨⟨c_5, c_13⟩, c_21⟩, (fun z => z.elim c_28 c_33), hg0⟩ (RFAt.ch hS9 hQ MA8 (fun i hi => upd_cg (upd_cg (T_15 i hi))) hr9 (K_12.1.2.trans e5) (K_12.2.2.2.1.trans f52) (K_12.2.2.2.2.1.trans f53) (K_12.2.2.2.2.2.trans f54)), (show fSame 239 249 _ _ from (fSame.ap (fSame.ap (fSame.tr2 (fSame.tr2 fSame.rf S_5 (by omega) (by omega)) S_14 (by omega) (by omega)) q_138 (by omega) (by omega)) q_150 (by omega) (by omega)))⟩
                      rw [if_pos ⟨⟨c_5, c_13⟩, c_21⟩, if_neg (fun z => z.elim c_28 c_33), if_neg (fun z => z hg0)]; exact Int32.add_comm _ _
              · rw [nI_eq (by omega) (by omega)] at c_72
                refine lv_iconst (v := (nI 1)) hx hb dX8_guess_75 (by decide) ?_
                refine lv_goto (tgt := 80) hx hb dX8_guess_76 (by decide) ?_
                refine lv_istore (lv' := [(4, .int (nI 1)), (0, .ref (fa g 239)), (1, .int (nI p0)), (2, .int (nI q0)), (3, .int (nI b0))]) hx hb dX8_guess_80 hl (by decide) rfl (fun ls hl => ?_)
                refine lv_aload_n hx hb dX8_guess_82 rfl (lv_at hl 1 rfl) ?_
                refine lv_iload_n hx hb dX8_guess_83 rfl (lv_at hl 3 rfl) ?_
                refine fs_pi (va_runV (As := [.int (nI q0)]) (rest := []) E.1 (c_X8_certainBox l g N ct_8 z_9 F_10 σ (by omega) hG M_11 T_15 C_13 q0 hq0) (lk_RX8_159 E.1.2.2.2.2 ⟨Nat.le_of_ble_eq_true rfl, Nat.le_of_ble_eq_true rfl⟩) (fpreV E hP hS fc8 m_16o (by omega)) rfl rfl hl.1 rfl (lv_room (Nat.le_of_ble_eq_true rfl)) dX8_guess_84 ⟨Nat.zero_le _, Nat.zero_le _⟩) hS (fun r_84 locs p_84 hS => ?_)
                refine fs_vi (y := (crF σ q0)) p_84 ?_
                refine lv_iload_n hx hb dX8_guess_87 rfl (lv_at hl 4 rfl) ?_
                refine lv_icmp_ne (tgt := 95) hx hb dX8_guess_88 (by decide) (fun c_88 => ?_) (fun c_88 => ?_)
                · refine lv_iconst (v := (nI 0)) hx hb dX8_guess_95 (by decide) ?_
                  refine lv_istore (lv' := [(5, .int (nI 0)), (4, .int (nI 1)), (0, .ref (fa g 239)), (1, .int (nI p0)), (2, .int (nI q0)), (3, .int (nI b0))]) hx hb dX8_guess_96 hl (by decide) rfl (fun ls hl => ?_)
                  refine lv_aload_n hx hb dX8_guess_98 rfl (lv_at hl 2 rfl) ?_
                  refine fs_get E hP (k := 239) (v := .int (z_9 2)) 8 fc8 m_16o (by omega) (by decide) (wm wl_21 (i := 7) rfl) rfl dX8_guess_99 ?_
                  refine fs_vi (y := nI (Wn σ)) C_13.1 ?_
                  refine lv_if_le (tgt := 123) hx hb dX8_guess_102 (by decide) (fun c_102 => ?_) (fun c_102 => ?_)
                  · rw [fz_leN (by omega)] at c_102
                    refine lv_iconst (v := (nI 0)) hx hb dX8_guess_123 (by decide) ?_
                    refine lv_istore (lv' := [(6, .int (nI 0)), (5, .int (nI 0)), (4, .int (nI 1)), (0, .ref (fa g 239)), (1, .int (nI p0)), (2, .int (nI q0)), (3, .int (nI b0))]) hx hb dX8_guess_124 hl (by decide) rfl (fun ls hl => ?_)
                    refine lv_aload_n hx hb dX8_guess_126 rfl (lv_at hl 3 rfl) ?_
                    refine fs_get E hP (k := 239) (v := .ref (fa g 240)) 0 fc8 m_16o (by omega) (by decide) (wm wl_5 (i := 0) rfl) rfl dX8_guess_127 ?_
                    refine lv_bipush (v := (nI 9)) hx hb dX8_guess_130 (by decide) ?_
                    refine lv_iload_n hx hb dX8_guess_132 rfl (lv_at hl 4 rfl) ?_
                    refine lv_iadd hx hb dX8_guess_133 ?_
                    refine fs_vi (y := nI (9 + p0)) (nI_add _ _) ?_
                    refine lv_dup2_11 hx hb dX8_guess_134 rfl rfl ?_
                    refine fs_iald E hP (k := 240) m_16r0 (by omega) (vp_in_nI (by omega) (by omega)) dX8_guess_135 ?_
                    refine fs_vi (y := (F_10 0) (9 + p0)) (congrArg (F_10 0) (nI_clamp (by omega))) ?_
                    refine fs_vi (y := (σ (9 + p0))) (T_15 _ (by omega)) ?_
                    refine lv_iload hx hb dX8_guess_136 (lv_at hl 2 rfl) ?_
                    refine lv_if_eq (tgt := 154) hx hb dX8_guess_138 (by decide) (fun c_138 => ?_) (fun c_138 => ?_)
                    · exact absurd c_138 (by decide)
                    refine lv_iload hx hb dX8_guess_141 (lv_at hl 1 rfl) ?_
                    refine lv_if_eq (tgt := 150) hx hb dX8_guess_143 (by decide) (fun c_143 => ?_) (fun c_143 => ?_)
                    rotate_left
                    · exact absurd c_143 (by decide)
                    refine lv_iconst (v := (nI 5)) hx hb dX8_guess_150 (by decide) ?_
                    refine lv_goto (tgt := 166) hx hb dX8_guess_151 (by decide) ?_
                    refine fs_vi (y := ptF σ q0 b0) (pt_2 c_72 (fun y => c_88 ((crF_iff hG hq0 hb0).mpr y))) ?_
                    refine lv_iadd hx hb dX8_guess_166 ?_
                    refine fs_iast E hP hS (k := 240) m_16r0 (by omega) (vp_in_nI (by omega) (by omega)) dX8_guess_167 (fun ct_161 H locs q_162 hP hS => ?_)
                    rw [nI_clamp (by omega)] at q_162
                    have h_163 : ct_161 239 = .inr (8, [.ref (fa g 240), .ref (fa g 241), .int (z_9 0), .ref (fa g 242), .ref (fa g 243), .ref (fa g 244), .int (z_9 1), .ref (fa g 245), .int (z_9 2), .ref (fa g 246), .ref (fa g 247), .ref (fa g 248), .int (z_9 3), .int (z_9 4), .int (z_9 5), .int (z_9 6), .int (z_9 7), .int (z_9 8), .int (z_9 9)]) := by rw [q_162]; exact (fu_ne (by omega)).trans m_16o
                    have h_164 : ct_161 240 = .inl (fcI g, 121, .inl (upd (F_10 0) (9 + p0) ((σ (9 + p0)) + (ptF σ q0 b0)))) := by rw [q_162]; exact fu_eq _ _ _
                    have h_165 : ct_161 241 = .inl (fcI g, 726, .inl (F_10 1)) := by rw [q_162]; exact (fu_ne (by omega)).trans m_16r1
                    have h_166 : ct_161 242 = .inl (fcI g, 242, .inl (F_10 2)) := by rw [q_162]; exact (fu_ne (by omega)).trans m_16r2
                    have h_167 : ct_161 243 = .inl (fcI g, 2, .inl (F_10 3)) := by rw [q_162]; exact (fu_ne (by omega)).trans m_16r3
                    have h_168 : ct_161 244 = .inl (fcI g, 60, .inl (F_10 4)) := by rw [q_162]; exact (fu_ne (by omega)).trans m_16r4
                    have h_169 : ct_161 245 = .inl (fcI g, 6, .inl (F_10 5)) := by rw [q_162]; exact (fu_ne (by omega)).trans m_16r5
                    have h_170 : ct_161 246 = .inl (fcI g, 36, .inl (F_10 6)) := by rw [q_162]; exact (fu_ne (by omega)).trans m_16r6
                    have h_171 : ct_161 247 = .inl (fcI g, 20, .inl (F_10 7)) := by rw [q_162]; exact (fu_ne (by omega)).trans m_16r7
                    have h_172 : ct_161 248 = .inl (fcI g, 20, .inl (F_10 8)) := by rw [q_162]; exact (fu_ne (by omega)).trans m_16r8
                    refine lv_aload_n hx hb dX8_guess_168 rfl (lv_at hl 3 rfl) ?_
                    refine fs_get E hP (k := 239) (v := .ref (fa g 240)) 0 fc8 h_163 (by omega) (by decide) (wm wl_5 (i := 0) rfl) rfl dX8_guess_169 ?_
                    refine lv_bipush (v := (nI 15)) hx hb dX8_guess_172 (by decide) ?_
                    refine lv_iload_n hx hb dX8_guess_174 rfl (lv_at hl 4 rfl) ?_
                    refine lv_iadd hx hb dX8_guess_175 ?_
                    refine fs_vi (y := nI (15 + p0)) (nI_add _ _) ?_
                    refine lv_iconst (v := (nI 1)) hx hb dX8_guess_176 (by decide) ?_
                    refine fs_iast E hP hS (k := 240) h_164 (by omega) (vp_in_nI (by omega) (by omega)) dX8_guess_177 (fun ct_173 H locs q_174 hP hS => ?_)
                    rw [nI_clamp (by omega)] at q_174
                    have h_175 : ct_173 239 = .inr (8, [.ref (fa g 240), .ref (fa g 241), .int (z_9 0), .ref (fa g 242), .ref (fa g 243), .ref (fa g 244), .int (z_9 1), .ref (fa g 245), .int (z_9 2), .ref (fa g 246), .ref (fa g 247), .ref (fa g 248), .int (z_9 3), .int (z_9 4), .int (z_9 5), .int (z_9 6), .int (z_9 7), .int (z_9 8), .int (z_9 9)]) := by rw [q_174]; exact (fu_ne (by omega)).trans h_163
                    have h_176 : ct_173 240 = .inl (fcI g, 121, .inl (upd (upd (F_10 0) (9 + p0) ((σ (9 + p0)) + (ptF σ q0 b0))) (15 + p0) (nI 1))) := by rw [q_174]; exact fu_eq _ _ _
                    have h_177 : ct_173 241 = .inl (fcI g, 726, .inl (F_10 1)) := by rw [q_174]; exact (fu_ne (by omega)).trans h_165
                    have h_178 : ct_173 242 = .inl (fcI g, 242, .inl (F_10 2)) := by rw [q_174]; exact (fu_ne (by omega)).trans h_166
                    have h_179 : ct_173 243 = .inl (fcI g, 2, .inl (F_10 3)) := by rw [q_174]; exact (fu_ne (by omega)).trans h_167
                    have h_180 : ct_173 244 = .inl (fcI g, 60, .inl (F_10 4)) := by rw [q_174]; exact (fu_ne (by omega)).trans h_168
                    have h_181 : ct_173 245 = .inl (fcI g, 6, .inl (F_10 5)) := by rw [q_174]; exact (fu_ne (by omega)).trans h_169
                    have h_182 : ct_173 246 = .inl (fcI g, 36, .inl (F_10 6)) := by rw [q_174]; exact (fu_ne (by omega)).trans h_170
                    have h_183 : ct_173 247 = .inl (fcI g, 20, .inl (F_10 7)) := by rw [q_174]; exact (fu_ne (by omega)).trans h_171
                    have h_184 : ct_173 248 = .inl (fcI g, 20, .inl (F_10 8)) := by rw [q_174]; exact (fu_ne (by omega)).trans h_172
                    refine lv_aload_n hx hb dX8_guess_178 rfl (lv_at hl 3 rfl) ?_
                    refine fs_get E hP (k := 239) (v := .ref (fa g 240)) 0 fc8 h_175 (by omega) (by decide) (wm wl_5 (i := 0) rfl) rfl dX8_guess_179 ?_
                    refine lv_bipush (v := (nI 9)) hx hb dX8_guess_182 (by decide) ?_
                    refine lv_iload_n hx hb dX8_guess_184 rfl (lv_at hl 4 rfl) ?_
                    refine lv_iadd hx hb dX8_guess_185 ?_
                    refine fs_vi (y := nI (9 + p0)) (nI_add _ _) ?_
                    refine fs_iald E hP (k := 240) h_176 (by omega) (vp_in_nI (by omega) (by omega)) dX8_guess_186 ?_
                    refine fs_vi (y := (upd (upd (F_10 0) (9 + p0) ((σ (9 + p0)) + (ptF σ q0 b0))) (15 + p0) (nI 1)) (9 + p0)) (congrArg (upd (upd (F_10 0) (9 + p0) ((σ (9 + p0)) + (ptF σ q0 b0))) (15 + p0) (nI 1)) (nI_clamp (by omega))) ?_
                    refine fs_vi (y := (σ (9 + p0) + ptF σ q0 b0)) (by rw [upd_ne (by omega)]; exact upd_eq _ _ _) ?_
                    refine lv_sipush (v := (nI 1000)) hx hb dX8_guess_187 (by decide) ?_
                    refine lv_iadd hx hb dX8_guess_190 ?_
                    have MA8 : MA g ct_173 (mkz (z_9 0) (z_9 1) (z_9 2) (z_9 3) (z_9 4) (z_9 5) (z_9 6) (z_9 7) (z_9 8) (z_9 9)) (mkF (upd (upd (F_10 0) (9 + p0) ((σ (9 + p0)) + (ptF σ q0 b0))) (15 + p0) (nI 1)) (F_10 1) (F_10 2) (F_10 3) (F_10 4) (F_10 5) (F_10 6) (F_10 7) (F_10 8)) := ⟨h_175, h_176, h_177, h_178, h_179, h_180, h_181, h_182, h_183, h_184⟩
                    have hr9 := RH.kk hRH5 K_12
                    refine fs_iret E hr hlk hP hS dX8_guess_191 ?_
                    rw [nI_cl (show p0 < 1000000 by omega)]
                    rw [nI_cl (show q0 < 1000000 by omega)]
                    rw [nI_cl (show b0 < 1000000 by omega)]
                    refine ⟨?_, RFc_t ⟨⟨⟨c_5, c_13⟩, c_21⟩, (fun z => z.elim c_28 c_33), hg0⟩ (RFAt.ch hS9 hQ MA8 (fun i hi => upd_cg (upd_cg (T_15 i hi))) hr9 (K_12.1.2.trans e5) (K_12.2.2.2.1.trans f52) (K_12.2.2.2.2.1.trans f53) (K_12.2.2.2.2.2.trans f54)), (show fSame 239 249 _ _ from (fSame.ap (fSame.ap (fSame.tr2 (fSame.tr2 fSame.rf S_5 (by omega) (by omega)) S_14 (by omega) (by omega)) q_162 (by omega) (by omega)) q_174 (by omega) (by omega)))⟩
                    rw [if_pos ⟨⟨c_5, c_13⟩, c_21⟩, if_neg (fun z => z.elim c_28 c_33), if_neg (fun z => z hg0)]; exact Int32.add_comm _ _
                  · rw [fz_leN (by omega)] at c_102
                    refine lv_aload_n hx hb dX8_guess_105 rfl (lv_at hl 2 rfl) ?_
                    refine fs_get E hP (k := 239) (v := .ref (fa g 246)) 9 fc8 m_16o (by omega) (by decide) (wm wl_5 (i := 6) rfl) rfl dX8_guess_106 ?_
                    refine lv_bipush (v := (nI 6)) hx hb dX8_guess_109 (by decide) ?_
                    refine lv_iload_n hx hb dX8_guess_111 rfl (lv_at hl 4 rfl) ?_
                    refine lv_imul hx hb dX8_guess_112 ?_
                    refine fs_vi (y := nI (6 * q0)) (pk_mul _ _) ?_
                    refine lv_iload_n hx hb dX8_guess_113 rfl (lv_at hl 5 rfl) ?_
                    refine lv_iadd hx hb dX8_guess_114 ?_
                    refine fs_vi (y := nI (6 * q0 + b0)) (nI_add _ _) ?_
                    refine fs_iald E hP (k := 246) m_16r6 (by omega) (vp_in_nI (by omega) (by omega)) dX8_guess_115 ?_
                    refine fs_vi (y := (F_10 6) (6 * q0 + b0)) (congrArg (F_10 6) (nI_clamp (by omega))) ?_
                    refine fs_vi (y := (nI (LKn σ q0 b0))) (C_13.2.1 q0 b0 hq0 (by omega)) ?_
                    refine lv_if_ne (tgt := 123) hx hb dX8_guess_116 (by decide) (fun c_116 => ?_) (fun c_116 => ?_)
                    · rw [fz_eqN (by omega)] at c_116
                      refine lv_iconst (v := (nI 0)) hx hb dX8_guess_123 (by decide) ?_
                      refine lv_istore (lv' := [(6, .int (nI 0)), (5, .int (nI 0)), (4, .int (nI 1)), (0, .ref (fa g 239)), (1, .int (nI p0)), (2, .int (nI q0)), (3, .int (nI b0))]) hx hb dX8_guess_124 hl (by decide) rfl (fun ls hl => ?_)
                      refine lv_aload_n hx hb dX8_guess_126 rfl (lv_at hl 3 rfl) ?_
                      refine fs_get E hP (k := 239) (v := .ref (fa g 240)) 0 fc8 m_16o (by omega) (by decide) (wm wl_5 (i := 0) rfl) rfl dX8_guess_127 ?_
                      refine lv_bipush (v := (nI 9)) hx hb dX8_guess_130 (by decide) ?_
                      refine lv_iload_n hx hb dX8_guess_132 rfl (lv_at hl 4 rfl) ?_
                      refine lv_iadd hx hb dX8_guess_133 ?_
                      refine fs_vi (y := nI (9 + p0)) (nI_add _ _) ?_
                      refine lv_dup2_11 hx hb dX8_guess_134 rfl rfl ?_
                      refine fs_iald E hP (k := 240) m_16r0 (by omega) (vp_in_nI (by omega) (by omega)) dX8_guess_135 ?_
                      refine fs_vi (y := (F_10 0) (9 + p0)) (congrArg (F_10 0) (nI_clamp (by omega))) ?_
                      refine fs_vi (y := (σ (9 + p0))) (T_15 _ (by omega)) ?_
                      refine lv_iload hx hb dX8_guess_136 (lv_at hl 2 rfl) ?_
                      refine lv_if_eq (tgt := 154) hx hb dX8_guess_138 (by decide) (fun c_138 => ?_) (fun c_138 => ?_)
                      · exact absurd c_138 (by decide)
                      refine lv_iload hx hb dX8_guess_141 (lv_at hl 1 rfl) ?_
                      refine lv_if_eq (tgt := 150) hx hb dX8_guess_143 (by decide) (fun c_143 => ?_) (fun c_143 => ?_)
                      rotate_left
                      · exact absurd c_143 (by decide)
                      refine lv_iconst (v := (nI 5)) hx hb dX8_guess_150 (by decide) ?_
                      refine lv_goto (tgt := 166) hx hb dX8_guess_151 (by decide) ?_
                      refine fs_vi (y := ptF σ q0 b0) (pt_2 c_72 (fun y => c_88 ((crF_iff hG hq0 hb0).mpr y))) ?_
                      refine lv_iadd hx hb dX8_guess_166 ?_
                      refine fs_iast E hP hS (k := 240) m_16r0 (by omega) (vp_in_nI (by omega) (by omega)) dX8_guess_167 (fun ct_185 H locs q_186 hP hS => ?_)
                      rw [nI_clamp (by omega)] at q_186
                      have h_187 : ct_185 239 = .inr (8, [.ref (fa g 240), .ref (fa g 241), .int (z_9 0), .ref (fa g 242), .ref (fa g 243), .ref (fa g 244), .int (z_9 1), .ref (fa g 245), .int (z_9 2), .ref (fa g 246), .ref (fa g 247), .ref (fa g 248), .int (z_9 3), .int (z_9 4), .int (z_9 5), .int (z_9 6), .int (z_9 7), .int (z_9 8), .int (z_9 9)]) := by rw [q_186]; exact (fu_ne (by omega)).trans m_16o
                      have h_188 : ct_185 240 = .inl (fcI g, 121, .inl (upd (F_10 0) (9 + p0) ((σ (9 + p0)) + (ptF σ q0 b0)))) := by rw [q_186]; exact fu_eq _ _ _
                      have h_189 : ct_185 241 = .inl (fcI g, 726, .inl (F_10 1)) := by rw [q_186]; exact (fu_ne (by omega)).trans m_16r1
                      have h_190 : ct_185 242 = .inl (fcI g, 242, .inl (F_10 2)) := by rw [q_186]; exact (fu_ne (by omega)).trans m_16r2
                      have h_191 : ct_185 243 = .inl (fcI g, 2, .inl (F_10 3)) := by rw [q_186]; exact (fu_ne (by omega)).trans m_16r3
                      have h_192 : ct_185 244 = .inl (fcI g, 60, .inl (F_10 4)) := by rw [q_186]; exact (fu_ne (by omega)).trans m_16r4
                      have h_193 : ct_185 245 = .inl (fcI g, 6, .inl (F_10 5)) := by rw [q_186]; exact (fu_ne (by omega)).trans m_16r5
                      have h_194 : ct_185 246 = .inl (fcI g, 36, .inl (F_10 6)) := by rw [q_186]; exact (fu_ne (by omega)).trans m_16r6
                      have h_195 : ct_185 247 = .inl (fcI g, 20, .inl (F_10 7)) := by rw [q_186]; exact (fu_ne (by omega)).trans m_16r7
                      have h_196 : ct_185 248 = .inl (fcI g, 20, .inl (F_10 8)) := by rw [q_186]; exact (fu_ne (by omega)).trans m_16r8
                      refine lv_aload_n hx hb dX8_guess_168 rfl (lv_at hl 3 rfl) ?_
                      refine fs_get E hP (k := 239) (v := .ref (fa g 240)) 0 fc8 h_187 (by omega) (by decide) (wm wl_5 (i := 0) rfl) rfl dX8_guess_169 ?_
                      refine lv_bipush (v := (nI 15)) hx hb dX8_guess_172 (by decide) ?_
                      refine lv_iload_n hx hb dX8_guess_174 rfl (lv_at hl 4 rfl) ?_
                      refine lv_iadd hx hb dX8_guess_175 ?_
                      refine fs_vi (y := nI (15 + p0)) (nI_add _ _) ?_
                      refine lv_iconst (v := (nI 1)) hx hb dX8_guess_176 (by decide) ?_
                      refine fs_iast E hP hS (k := 240) h_188 (by omega) (vp_in_nI (by omega) (by omega)) dX8_guess_177 (fun ct_197 H locs q_198 hP hS => ?_)
                      rw [nI_clamp (by omega)] at q_198
                      have h_199 : ct_197 239 = .inr (8, [.ref (fa g 240), .ref (fa g 241), .int (z_9 0), .ref (fa g 242), .ref (fa g 243), .ref (fa g 244), .int (z_9 1), .ref (fa g 245), .int (z_9 2), .ref (fa g 246), .ref (fa g 247), .ref (fa g 248), .int (z_9 3), .int (z_9 4), .int (z_9 5), .int (z_9 6), .int (z_9 7), .int (z_9 8), .int (z_9 9)]) := by rw [q_198]; exact (fu_ne (by omega)).trans h_187
                      have h_200 : ct_197 240 = .inl (fcI g, 121, .inl (upd (upd (F_10 0) (9 + p0) ((σ (9 + p0)) + (ptF σ q0 b0))) (15 + p0) (nI 1))) := by rw [q_198]; exact fu_eq _ _ _
                      have h_201 : ct_197 241 = .inl (fcI g, 726, .inl (F_10 1)) := by rw [q_198]; exact (fu_ne (by omega)).trans h_189
                      have h_202 : ct_197 242 = .inl (fcI g, 242, .inl (F_10 2)) := by rw [q_198]; exact (fu_ne (by omega)).trans h_190
                      have h_203 : ct_197 243 = .inl (fcI g, 2, .inl (F_10 3)) := by rw [q_198]; exact (fu_ne (by omega)).trans h_191
                      have h_204 : ct_197 244 = .inl (fcI g, 60, .inl (F_10 4)) := by rw [q_198]; exact (fu_ne (by omega)).trans h_192
                      have h_205 : ct_197 245 = .inl (fcI g, 6, .inl (F_10 5)) := by rw [q_198]; exact (fu_ne (by omega)).trans h_193
                      have h_206 : ct_197 246 = .inl (fcI g, 36, .inl (F_10 6)) := by rw [q_198]; exact (fu_ne (by omega)).trans h_194
                      have h_207 : ct_197 247 = .inl (fcI g, 20, .inl (F_10 7)) := by rw [q_198]; exact (fu_ne (by omega)).trans h_195
                      have h_208 : ct_197 248 = .inl (fcI g, 20, .inl (F_10 8)) := by rw [q_198]; exact (fu_ne (by omega)).trans h_196
                      refine lv_aload_n hx hb dX8_guess_178 rfl (lv_at hl 3 rfl) ?_
                      refine fs_get E hP (k := 239) (v := .ref (fa g 240)) 0 fc8 h_199 (by omega) (by decide) (wm wl_5 (i := 0) rfl) rfl dX8_guess_179 ?_
                      refine lv_bipush (v := (nI 9)) hx hb dX8_guess_182 (by decide) ?_
                      refine lv_iload_n hx hb dX8_guess_184 rfl (lv_at hl 4 rfl) ?_
                      refine lv_iadd hx hb dX8_guess_185 ?_
                      refine fs_vi (y := nI (9 + p0)) (nI_add _ _) ?_
                      refine fs_iald E hP (k := 240) h_200 (by omega) (vp_in_nI (by omega) (by omega)) dX8_guess_186 ?_
                      refine fs_vi (y := (upd (upd (F_10 0) (9 + p0) ((σ (9 + p0)) + (ptF σ q0 b0))) (15 + p0) (nI 1)) (9 + p0)) (congrArg (upd (upd (F_10 0) (9 + p0) ((σ (9 + p0)) + (ptF σ q0 b0))) (15 + p0) (nI 1)) (nI_clamp (by omega))) ?_
                      refine fs_vi (y := (σ (9 + p0) + ptF σ q0 b0)) (by rw [upd_ne (by omega)]; exact upd_eq _ _ _) ?_
                      refine lv_sipush (v := (nI 1000)) hx hb dX8_guess_187 (by decide) ?_
                      refine lv_iadd hx hb dX8_guess_190 ?_
                      have MA8 : MA g ct_197 (mkz (z_9 0) (z_9 1) (z_9 2) (z_9 3) (z_9 4) (z_9 5) (z_9 6) (z_9 7) (z_9 8) (z_9 9)) (mkF (upd (upd (F_10 0) (9 + p0) ((σ (9 + p0)) + (ptF σ q0 b0))) (15 + p0) (nI 1)) (F_10 1) (F_10 2) (F_10 3) (F_10 4) (F_10 5) (F_10 6) (F_10 7) (F_10 8)) := ⟨h_199, h_200, h_201, h_202, h_203, h_204, h_205, h_206, h_207, h_208⟩
                      have hr9 := RH.kk hRH5 K_12
                      refine fs_iret E hr hlk hP hS dX8_guess_191 ?_
                      rw [nI_cl (show p0 < 1000000 by omega)]
                      rw [nI_cl (show q0 < 1000000 by omega)]
                      rw [nI_cl (show b0 < 1000000 by omega)]
                      refine ⟨?_, RFc_t ⟨⟨⟨c_5, c_13⟩, c_21⟩, (fun z => z.elim c_28 c_33), hg0⟩ (RFAt.ch hS9 hQ MA8 (fun i hi => upd_cg (upd_cg (T_15 i hi))) hr9 (K_12.1.2.trans e5) (K_12.2.2.2.1.trans f52) (K_12.2.2.2.2.1.trans f53) (K_12.2.2.2.2.2.trans f54)), (show fSame 239 249 _ _ from (fSame.ap (fSame.ap (fSame.tr2 (fSame.tr2 fSame.rf S_5 (by omega) (by omega)) S_14 (by omega) (by omega)) q_186 (by omega) (by omega)) q_198 (by omega) (by omega)))⟩
                      rw [if_pos ⟨⟨c_5, c_13⟩, c_21⟩, if_neg (fun z => z.elim c_28 c_33), if_neg (fun z => z hg0)]; exact Int32.add_comm _ _
                    · rw [fz_eqN (by omega)] at c_116
                      refine lv_iconst (v := (nI 1)) hx hb dX8_guess_119 (by decide) ?_
                      refine lv_goto (tgt := 124) hx hb dX8_guess_120 (by decide) ?_
                      refine lv_istore (lv' := [(6, .int (nI 1)), (5, .int (nI 0)), (4, .int (nI 1)), (0, .ref (fa g 239)), (1, .int (nI p0)), (2, .int (nI q0)), (3, .int (nI b0))]) hx hb dX8_guess_124 hl (by decide) rfl (fun ls hl => ?_)
                      refine lv_aload_n hx hb dX8_guess_126 rfl (lv_at hl 3 rfl) ?_
                      refine fs_get E hP (k := 239) (v := .ref (fa g 240)) 0 fc8 m_16o (by omega) (by decide) (wm wl_5 (i := 0) rfl) rfl dX8_guess_127 ?_
                      refine lv_bipush (v := (nI 9)) hx hb dX8_guess_130 (by decide) ?_
                      refine lv_iload_n hx hb dX8_guess_132 rfl (lv_at hl 4 rfl) ?_
                      refine lv_iadd hx hb dX8_guess_133 ?_
                      refine fs_vi (y := nI (9 + p0)) (nI_add _ _) ?_
                      refine lv_dup2_11 hx hb dX8_guess_134 rfl rfl ?_
                      refine fs_iald E hP (k := 240) m_16r0 (by omega) (vp_in_nI (by omega) (by omega)) dX8_guess_135 ?_
                      refine fs_vi (y := (F_10 0) (9 + p0)) (congrArg (F_10 0) (nI_clamp (by omega))) ?_
                      refine fs_vi (y := (σ (9 + p0))) (T_15 _ (by omega)) ?_
                      refine lv_iload hx hb dX8_guess_136 (lv_at hl 2 rfl) ?_
                      refine lv_if_eq (tgt := 154) hx hb dX8_guess_138 (by decide) (fun c_138 => ?_) (fun c_138 => ?_)
                      · exact absurd c_138 (by decide)
                      refine lv_iload hx hb dX8_guess_141 (lv_at hl 1 rfl) ?_
                      refine lv_if_eq (tgt := 150) hx hb dX8_guess_143 (by decide) (fun c_143 => ?_) (fun c_143 => ?_)
                      rotate_left
                      · exact absurd c_143 (by decide)
                      refine lv_iconst (v := (nI 5)) hx hb dX8_guess_150 (by decide) ?_
                      refine lv_goto (tgt := 166) hx hb dX8_guess_151 (by decide) ?_
                      refine fs_vi (y := ptF σ q0 b0) (pt_2 c_72 (fun y => c_88 ((crF_iff hG hq0 hb0).mpr y))) ?_
                      refine lv_iadd hx hb dX8_guess_166 ?_
                      refine fs_iast E hP hS (k := 240) m_16r0 (by omega) (vp_in_nI (by omega) (by omega)) dX8_guess_167 (fun ct_209 H locs q_210 hP hS => ?_)
                      rw [nI_clamp (by omega)] at q_210
                      have h_211 : ct_209 239 = .inr (8, [.ref (fa g 240), .ref (fa g 241), .int (z_9 0), .ref (fa g 242), .ref (fa g 243), .ref (fa g 244), .int (z_9 1), .ref (fa g 245), .int (z_9 2), .ref (fa g 246), .ref (fa g 247), .ref (fa g 248), .int (z_9 3), .int (z_9 4), .int (z_9 5), .int (z_9 6), .int (z_9 7), .int (z_9 8), .int (z_9 9)]) := by rw [q_210]; exact (fu_ne (by omega)).trans m_16o
                      have h_212 : ct_209 240 = .inl (fcI g, 121, .inl (upd (F_10 0) (9 + p0) ((σ (9 + p0)) + (ptF σ q0 b0)))) := by rw [q_210]; exact fu_eq _ _ _
                      have h_213 : ct_209 241 = .inl (fcI g, 726, .inl (F_10 1)) := by rw [q_210]; exact (fu_ne (by omega)).trans m_16r1
                      have h_214 : ct_209 242 = .inl (fcI g, 242, .inl (F_10 2)) := by rw [q_210]; exact (fu_ne (by omega)).trans m_16r2
                      have h_215 : ct_209 243 = .inl (fcI g, 2, .inl (F_10 3)) := by rw [q_210]; exact (fu_ne (by omega)).trans m_16r3
                      have h_216 : ct_209 244 = .inl (fcI g, 60, .inl (F_10 4)) := by rw [q_210]; exact (fu_ne (by omega)).trans m_16r4
                      have h_217 : ct_209 245 = .inl (fcI g, 6, .inl (F_10 5)) := by rw [q_210]; exact (fu_ne (by omega)).trans m_16r5
                      have h_218 : ct_209 246 = .inl (fcI g, 36, .inl (F_10 6)) := by rw [q_210]; exact (fu_ne (by omega)).trans m_16r6
                      have h_219 : ct_209 247 = .inl (fcI g, 20, .inl (F_10 7)) := by rw [q_210]; exact (fu_ne (by omega)).trans m_16r7
                      have h_220 : ct_209 248 = .inl (fcI g, 20, .inl (F_10 8)) := by rw [q_210]; exact (fu_ne (by omega)).trans m_16r8
                      refine lv_aload_n hx hb dX8_guess_168 rfl (lv_at hl 3 rfl) ?_
                      refine fs_get E hP (k := 239) (v := .ref (fa g 240)) 0 fc8 h_211 (by omega) (by decide) (wm wl_5 (i := 0) rfl) rfl dX8_guess_169 ?_
                      refine lv_bipush (v := (nI 15)) hx hb dX8_guess_172 (by decide) ?_
                      refine lv_iload_n hx hb dX8_guess_174 rfl (lv_at hl 4 rfl) ?_
                      refine lv_iadd hx hb dX8_guess_175 ?_
                      refine fs_vi (y := nI (15 + p0)) (nI_add _ _) ?_
                      refine lv_iconst (v := (nI 1)) hx hb dX8_guess_176 (by decide) ?_
                      refine fs_iast E hP hS (k := 240) h_212 (by omega) (vp_in_nI (by omega) (by omega)) dX8_guess_177 (fun ct_221 H locs q_222 hP hS => ?_)
                      rw [nI_clamp (by omega)] at q_222
                      have h_223 : ct_221 239 = .inr (8, [.ref (fa g 240), .ref (fa g 241), .int (z_9 0), .ref (fa g 242), .ref (fa g 243), .ref (fa g 244), .int (z_9 1), .ref (fa g 245), .int (z_9 2), .ref (fa g 246), .ref (fa g 247), .ref (fa g 248), .int (z_9 3), .int (z_9 4), .int (z_9 5), .int (z_9 6), .int (z_9 7), .int (z_9 8), .int (z_9 9)]) := by rw [q_222]; exact (fu_ne (by omega)).trans h_211
                      have h_224 : ct_221 240 = .inl (fcI g, 121, .inl (upd (upd (F_10 0) (9 + p0) ((σ (9 + p0)) + (ptF σ q0 b0))) (15 + p0) (nI 1))) := by rw [q_222]; exact fu_eq _ _ _
                      have h_225 : ct_221 241 = .inl (fcI g, 726, .inl (F_10 1)) := by rw [q_222]; exact (fu_ne (by omega)).trans h_213
                      have h_226 : ct_221 242 = .inl (fcI g, 242, .inl (F_10 2)) := by rw [q_222]; exact (fu_ne (by omega)).trans h_214
                      have h_227 : ct_221 243 = .inl (fcI g, 2, .inl (F_10 3)) := by rw [q_222]; exact (fu_ne (by omega)).trans h_215
                      have h_228 : ct_221 244 = .inl (fcI g, 60, .inl (F_10 4)) := by rw [q_222]; exact (fu_ne (by omega)).trans h_216
                      have h_229 : ct_221 245 = .inl (fcI g, 6, .inl (F_10 5)) := by rw [q_222]; exact (fu_ne (by omega)).trans h_217
                      have h_230 : ct_221 246 = .inl (fcI g, 36, .inl (F_10 6)) := by rw [q_222]; exact (fu_ne (by omega)).trans h_218
                      have h_231 : ct_221 247 = .inl (fcI g, 20, .inl (F_10 7)) := by rw [q_222]; exact (fu_ne (by omega)).trans h_219
                      have h_232 : ct_221 248 = .inl (fcI g, 20, .inl (F_10 8)) := by rw [q_222]; exact (fu_ne (by omega)).trans h_220
                      refine lv_aload_n hx hb dX8_guess_178 rfl (lv_at hl 3 rfl) ?_
                      refine fs_get E hP (k := 239) (v := .ref (fa g 240)) 0 fc8 h_223 (by omega) (by decide) (wm wl_5 (i := 0) rfl) rfl dX8_guess_179 ?_
                      refine lv_bipush (v := (nI 9)) hx hb dX8_guess_182 (by decide) ?_
                      refine lv_iload_n hx hb dX8_guess_184 rfl (lv_at hl 4 rfl) ?_
                      refine lv_iadd hx hb dX8_guess_185 ?_
                      refine fs_vi (y := nI (9 + p0)) (nI_add _ _) ?_
                      refine fs_iald E hP (k := 240) h_224 (by omega) (vp_in_nI (by omega) (by omega)) dX8_guess_186 ?_
                      refine fs_vi (y := (upd (upd (F_10 0) (9 + p0) ((σ (9 + p0)) + (ptF σ q0 b0))) (15 + p0) (nI 1)) (9 + p0)) (congrArg (upd (upd (F_10 0) (9 + p0) ((σ (9 + p0)) + (ptF σ q0 b0))) (15 + p0) (nI 1)) (nI_clamp (by omega))) ?_
                      refine fs_vi (y := (σ (9 + p0) + ptF σ q0 b0)) (by rw [upd_ne (by omega)]; exact upd_eq _ _ _) ?_
                      refine lv_sipush (v := (nI 1000)) hx hb dX8_guess_187 (by decide) ?_
                      refine lv_iadd hx hb dX8_guess_190 ?_
                      have MA8 : MA g ct_221 (mkz (z_9 0) (z_9 1) (z_9 2) (z_9 3) (z_9 4) (z_9 5) (z_9 6) (z_9 7) (z_9 8) (z_9 9)) (mkF (upd (upd (F_10 0) (9 + p0) ((σ (9 + p0)) + (ptF σ q0 b0))) (15 + p0) (nI 1)) (F_10 1) (F_10 2) (F_10 3) (F_10 4) (F_10 5) (F_10 6) (F_10 7) (F_10 8)) := ⟨h_223, h_224, h_225, h_226, h_227, h_228, h_229, h_230, h_231, h_232⟩
                      have hr9 := RH.kk hRH5 K_12
                      refine fs_iret E hr hlk hP hS dX8_guess_191 ?_
                      rw [nI_cl (show p0 < 1000000 by omega)]
                      rw [nI_cl (show q0 < 1000000 by omega)]
                      rw [nI_cl (show b0 < 1000000 by omega)]
                      refine ⟨?_, RFc_t ⟨⟨⟨c_5, c_13⟩, c_21⟩, (fun z => z.elim c_28 c_33), hg0⟩ (RFAt.ch hS9 hQ MA8 (fun i hi => upd_cg (upd_cg (T_15 i hi))) hr9 (K_12.1.2.trans e5) (K_12.2.2.2.1.trans f52) (K_12.2.2.2.2.1.trans f53) (K_12.2.2.2.2.2.trans f54)), (show fSame 239 249 _ _ from (fSame.ap (fSame.ap (fSame.tr2 (fSame.tr2 fSame.rf S_5 (by omega) (by omega)) S_14 (by omega) (by omega)) q_210 (by omega) (by omega)) q_222 (by omega) (by omega)))⟩
                      rw [if_pos ⟨⟨c_5, c_13⟩, c_21⟩, if_neg (fun z => z.elim c_28 c_33), if_neg (fun z => z hg0)]; exact Int32.add_comm _ _
                · refine lv_iconst (v := (nI 1)) hx hb dX8_guess_91 (by decide) ?_
                  refine lv_goto (tgt := 96) hx hb dX8_guess_92 (by decide) ?_
                  refine lv_istore (lv' := [(5, .int (nI 1)), (4, .int (nI 1)), (0, .ref (fa g 239)), (1, .int (nI p0)), (2, .int (nI q0)), (3, .int (nI b0))]) hx hb dX8_guess_96 hl (by decide) rfl (fun ls hl => ?_)
                  refine lv_aload_n hx hb dX8_guess_98 rfl (lv_at hl 2 rfl) ?_
                  refine fs_get E hP (k := 239) (v := .int (z_9 2)) 8 fc8 m_16o (by omega) (by decide) (wm wl_21 (i := 7) rfl) rfl dX8_guess_99 ?_
                  refine fs_vi (y := nI (Wn σ)) C_13.1 ?_
                  refine lv_if_le (tgt := 123) hx hb dX8_guess_102 (by decide) (fun c_102 => ?_) (fun c_102 => ?_)
                  · rw [fz_leN (by omega)] at c_102
                    refine lv_iconst (v := (nI 0)) hx hb dX8_guess_123 (by decide) ?_
                    refine lv_istore (lv' := [(6, .int (nI 0)), (5, .int (nI 1)), (4, .int (nI 1)), (0, .ref (fa g 239)), (1, .int (nI p0)), (2, .int (nI q0)), (3, .int (nI b0))]) hx hb dX8_guess_124 hl (by decide) rfl (fun ls hl => ?_)
                    refine lv_aload_n hx hb dX8_guess_126 rfl (lv_at hl 3 rfl) ?_
                    refine fs_get E hP (k := 239) (v := .ref (fa g 240)) 0 fc8 m_16o (by omega) (by decide) (wm wl_5 (i := 0) rfl) rfl dX8_guess_127 ?_
                    refine lv_bipush (v := (nI 9)) hx hb dX8_guess_130 (by decide) ?_
                    refine lv_iload_n hx hb dX8_guess_132 rfl (lv_at hl 4 rfl) ?_
                    refine lv_iadd hx hb dX8_guess_133 ?_
                    refine fs_vi (y := nI (9 + p0)) (nI_add _ _) ?_
                    refine lv_dup2_11 hx hb dX8_guess_134 rfl rfl ?_
                    refine fs_iald E hP (k := 240) m_16r0 (by omega) (vp_in_nI (by omega) (by omega)) dX8_guess_135 ?_
                    refine fs_vi (y := (F_10 0) (9 + p0)) (congrArg (F_10 0) (nI_clamp (by omega))) ?_
                    refine fs_vi (y := (σ (9 + p0))) (T_15 _ (by omega)) ?_
                    refine lv_iload hx hb dX8_guess_136 (lv_at hl 2 rfl) ?_
                    refine lv_if_eq (tgt := 154) hx hb dX8_guess_138 (by decide) (fun c_138 => ?_) (fun c_138 => ?_)
                    · exact absurd c_138 (by decide)
                    refine lv_iload hx hb dX8_guess_141 (lv_at hl 1 rfl) ?_
                    refine lv_if_eq (tgt := 150) hx hb dX8_guess_143 (by decide) (fun c_143 => ?_) (fun c_143 => ?_)
                    · exact absurd c_143 (by decide)
                    refine lv_iconst (v := (nI 3)) hx hb dX8_guess_146 (by decide) ?_
                    refine lv_goto (tgt := 166) hx hb dX8_guess_147 (by decide) ?_
                    refine fs_vi (y := ptF σ q0 b0) (pt_1 c_72 ((crF_iff hG hq0 hb0).mp c_88)) ?_
                    refine lv_iadd hx hb dX8_guess_166 ?_
                    refine fs_iast E hP hS (k := 240) m_16r0 (by omega) (vp_in_nI (by omega) (by omega)) dX8_guess_167 (fun ct_233 H locs q_234 hP hS => ?_)
                    rw [nI_clamp (by omega)] at q_234
                    have h_235 : ct_233 239 = .inr (8, [.ref (fa g 240), .ref (fa g 241), .int (z_9 0), .ref (fa g 242), .ref (fa g 243), .ref (fa g 244), .int (z_9 1), .ref (fa g 245), .int (z_9 2), .ref (fa g 246), .ref (fa g 247), .ref (fa g 248), .int (z_9 3), .int (z_9 4), .int (z_9 5), .int (z_9 6), .int (z_9 7), .int (z_9 8), .int (z_9 9)]) := by rw [q_234]; exact (fu_ne (by omega)).trans m_16o
                    have h_236 : ct_233 240 = .inl (fcI g, 121, .inl (upd (F_10 0) (9 + p0) ((σ (9 + p0)) + (ptF σ q0 b0)))) := by rw [q_234]; exact fu_eq _ _ _
                    have h_237 : ct_233 241 = .inl (fcI g, 726, .inl (F_10 1)) := by rw [q_234]; exact (fu_ne (by omega)).trans m_16r1
                    have h_238 : ct_233 242 = .inl (fcI g, 242, .inl (F_10 2)) := by rw [q_234]; exact (fu_ne (by omega)).trans m_16r2
                    have h_239 : ct_233 243 = .inl (fcI g, 2, .inl (F_10 3)) := by rw [q_234]; exact (fu_ne (by omega)).trans m_16r3
                    have h_240 : ct_233 244 = .inl (fcI g, 60, .inl (F_10 4)) := by rw [q_234]; exact (fu_ne (by omega)).trans m_16r4
                    have h_241 : ct_233 245 = .inl (fcI g, 6, .inl (F_10 5)) := by rw [q_234]; exact (fu_ne (by omega)).trans m_16r5
                    have h_242 : ct_233 246 = .inl (fcI g, 36, .inl (F_10 6)) := by rw [q_234]; exact (fu_ne (by omega)).trans m_16r6
                    have h_243 : ct_233 247 = .inl (fcI g, 20, .inl (F_10 7)) := by rw [q_234]; exact (fu_ne (by omega)).trans m_16r7
                    have h_244 : ct_233 248 = .inl (fcI g, 20, .inl (F_10 8)) := by rw [q_234]; exact (fu_ne (by omega)).trans m_16r8
                    refine lv_aload_n hx hb dX8_guess_168 rfl (lv_at hl 3 rfl) ?_
                    refine fs_get E hP (k := 239) (v := .ref (fa g 240)) 0 fc8 h_235 (by omega) (by decide) (wm wl_5 (i := 0) rfl) rfl dX8_guess_169 ?_
                    refine lv_bipush (v := (nI 15)) hx hb dX8_guess_172 (by decide) ?_
                    refine lv_iload_n hx hb dX8_guess_174 rfl (lv_at hl 4 rfl) ?_
                    refine lv_iadd hx hb dX8_guess_175 ?_
                    refine fs_vi (y := nI (15 + p0)) (nI_add _ _) ?_
                    refine lv_iconst (v := (nI 1)) hx hb dX8_guess_176 (by decide) ?_
                    refine fs_iast E hP hS (k := 240) h_236 (by omega) (vp_in_nI (by omega) (by omega)) dX8_guess_177 (fun ct_245 H locs q_246 hP hS => ?_)
                    rw [nI_clamp (by omega)] at q_246
                    have h_247 : ct_245 239 = .inr (8, [.ref (fa g 240), .ref (fa g 241), .int (z_9 0), .ref (fa g 242), .ref (fa g 243), .ref (fa g 244), .int (z_9 1), .ref (fa g 245), .int (z_9 2), .ref (fa g 246), .ref (fa g 247), .ref (fa g 248), .int (z_9 3), .int (z_9 4), .int (z_9 5), .int (z_9 6), .int (z_9 7), .int (z_9 8), .int (z_9 9)]) := by rw [q_246]; exact (fu_ne (by omega)).trans h_235
                    have h_248 : ct_245 240 = .inl (fcI g, 121, .inl (upd (upd (F_10 0) (9 + p0) ((σ (9 + p0)) + (ptF σ q0 b0))) (15 + p0) (nI 1))) := by rw [q_246]; exact fu_eq _ _ _
                    have h_249 : ct_245 241 = .inl (fcI g, 726, .inl (F_10 1)) := by rw [q_246]; exact (fu_ne (by omega)).trans h_237
                    have h_250 : ct_245 242 = .inl (fcI g, 242, .inl (F_10 2)) := by rw [q_246]; exact (fu_ne (by omega)).trans h_238
                    have h_251 : ct_245 243 = .inl (fcI g, 2, .inl (F_10 3)) := by rw [q_246]; exact (fu_ne (by omega)).trans h_239
                    have h_252 : ct_245 244 = .inl (fcI g, 60, .inl (F_10 4)) := by rw [q_246]; exact (fu_ne (by omega)).trans h_240
                    have h_253 : ct_245 245 = .inl (fcI g, 6, .inl (F_10 5)) := by rw [q_246]; exact (fu_ne (by omega)).trans h_241
                    have h_254 : ct_245 246 = .inl (fcI g, 36, .inl (F_10 6)) := by rw [q_246]; exact (fu_ne (by omega)).trans h_242
                    have h_255 : ct_245 247 = .inl (fcI g, 20, .inl (F_10 7)) := by rw [q_246]; exact (fu_ne (by omega)).trans h_243
                    have h_256 : ct_245 248 = .inl (fcI g, 20, .inl (F_10 8)) := by rw [q_246]; exact (fu_ne (by omega)).trans h_244
                    refine lv_aload_n hx hb dX8_guess_178 rfl (lv_at hl 3 rfl) ?_
                    refine fs_get E hP (k := 239) (v := .ref (fa g 240)) 0 fc8 h_247 (by omega) (by decide) (wm wl_5 (i := 0) rfl) rfl dX8_guess_179 ?_
                    refine lv_bipush (v := (nI 9)) hx hb dX8_guess_182 (by decide) ?_
                    refine lv_iload_n hx hb dX8_guess_184 rfl (lv_at hl 4 rfl) ?_
                    refine lv_iadd hx hb dX8_guess_185 ?_
                    refine fs_vi (y := nI (9 + p0)) (nI_add _ _) ?_
                    refine fs_iald E hP (k := 240) h_248 (by omega) (vp_in_nI (by omega) (by omega)) dX8_guess_186 ?_
                    refine fs_vi (y := (upd (upd (F_10 0) (9 + p0) ((σ (9 + p0)) + (ptF σ q0 b0))) (15 + p0) (nI 1)) (9 + p0)) (congrArg (upd (upd (F_10 0) (9 + p0) ((σ (9 + p0)) + (ptF σ q0 b0))) (15 + p0) (nI 1)) (nI_clamp (by omega))) ?_
                    refine fs_vi (y := (σ (9 + p0) + ptF σ q0 b0)) (by rw [upd_ne (by omega)]; exact upd_eq _ _ _) ?_
                    refine lv_sipush (v := (nI 1000)) hx hb dX8_guess_187 (by decide) ?_
                    refine lv_iadd hx hb dX8_guess_190 ?_
                    have MA8 : MA g ct_245 (mkz (z_9 0) (z_9 1) (z_9 2) (z_9 3) (z_9 4) (z_9 5) (z_9 6) (z_9 7) (z_9 8) (z_9 9)) (mkF (upd (upd (F_10 0) (9 + p0) ((σ (9 + p0)) + (ptF σ q0 b0))) (15 + p0) (nI 1)) (F_10 1) (F_10 2) (F_10 3) (F_10 4) (F_10 5) (F_10 6) (F_10 7) (F_10 8)) := ⟨h_247, h_248, h_249, h_250, h_251, h_252, h_253, h_254, h_255, h_256⟩
                    have hr9 := RH.kk hRH5 K_12
                    refine fs_iret E hr hlk hP hS dX8_guess_191 ?_
                    rw [nI_cl (show p0 < 1000000 by omega)]
                    rw [nI_cl (show q0 < 1000000 by omega)]
                    rw [nI_cl (show b0 < 1000000 by omega)]
                    refine ⟨?_, RFc_t ⟨⟨⟨c_5, c_13⟩, c_21⟩, (fun z => z.elim c_28 c_33), hg0⟩ (RFAt.ch hS9 hQ MA8 (fun i hi => upd_cg (upd_cg (T_15 i hi))) hr9 (K_12.1.2.trans e5) (K_12.2.2.2.1.trans f52) (K_12.2.2.2.2.1.trans f53) (K_12.2.2.2.2.2.trans f54)), (show fSame 239 249 _ _ from (fSame.ap (fSame.ap (fSame.tr2 (fSame.tr2 fSame.rf S_5 (by omega) (by omega)) S_14 (by omega) (by omega)) q_234 (by omega) (by omega)) q_246 (by omega) (by omega)))⟩
                    rw [if_pos ⟨⟨c_5, c_13⟩, c_21⟩, if_neg (fun z => z.elim c_28 c_33), if_neg (fun z => z hg0)]; exact Int32.add_comm _ _
                  · rw [fz_leN (by omega)] at c_102
                    refine lv_aload_n hx hb dX8_guess_105 rfl (lv_at hl 2 rfl) ?_
                    refine fs_get E hP (k := 239) (v := .ref (fa g 246)) 9 fc8 m_16o (by omega) (by decide) (wm wl_5 (i := 6) rfl) rfl dX8_guess_106 ?_
                    refine lv_bipush (v := (nI 6)) hx hb dX8_guess_109 (by decide) ?_
                    refine lv_iload_n hx hb dX8_guess_111 rfl (lv_at hl 4 rfl) ?_
                    refine lv_imul hx hb dX8_guess_112 ?_
                    refine fs_vi (y := nI (6 * q0)) (pk_mul _ _) ?_
                    refine lv_iload_n hx hb dX8_guess_113 rfl (lv_at hl 5 rfl) ?_
                    refine lv_iadd hx hb dX8_guess_114 ?_
                    refine fs_vi (y := nI (6 * q0 + b0)) (nI_add _ _) ?_
                    refine fs_iald E hP (k := 246) m_16r6 (by omega) (vp_in_nI (by omega) (by omega)) dX8_guess_115 ?_
                    refine fs_vi (y := (F_10 6) (6 * q0 + b0)) (congrArg (F_10 6) (nI_clamp (by omega))) ?_
                    refine fs_vi (y := (nI (LKn σ q0 b0))) (C_13.2.1 q0 b0 hq0 (by omega)) ?_
                    refine lv_if_ne (tgt := 123) hx hb dX8_guess_116 (by decide) (fun c_116 => ?_) (fun c_116 => ?_)
                    · rw [fz_eqN (by omega)] at c_116
                      refine lv_iconst (v := (nI 0)) hx hb dX8_guess_123 (by decide) ?_
                      refine lv_istore (lv' := [(6, .int (nI 0)), (5, .int (nI 1)), (4, .int (nI 1)), (0, .ref (fa g 239)), (1, .int (nI p0)), (2, .int (nI q0)), (3, .int (nI b0))]) hx hb dX8_guess_124 hl (by decide) rfl (fun ls hl => ?_)
                      refine lv_aload_n hx hb dX8_guess_126 rfl (lv_at hl 3 rfl) ?_
                      refine fs_get E hP (k := 239) (v := .ref (fa g 240)) 0 fc8 m_16o (by omega) (by decide) (wm wl_5 (i := 0) rfl) rfl dX8_guess_127 ?_
                      refine lv_bipush (v := (nI 9)) hx hb dX8_guess_130 (by decide) ?_
                      refine lv_iload_n hx hb dX8_guess_132 rfl (lv_at hl 4 rfl) ?_
                      refine lv_iadd hx hb dX8_guess_133 ?_
                      refine fs_vi (y := nI (9 + p0)) (nI_add _ _) ?_
                      refine lv_dup2_11 hx hb dX8_guess_134 rfl rfl ?_
                      refine fs_iald E hP (k := 240) m_16r0 (by omega) (vp_in_nI (by omega) (by omega)) dX8_guess_135 ?_
                      refine fs_vi (y := (F_10 0) (9 + p0)) (congrArg (F_10 0) (nI_clamp (by omega))) ?_
                      refine fs_vi (y := (σ (9 + p0))) (T_15 _ (by omega)) ?_
                      refine lv_iload hx hb dX8_guess_136 (lv_at hl 2 rfl) ?_
                      refine lv_if_eq (tgt := 154) hx hb dX8_guess_138 (by decide) (fun c_138 => ?_) (fun c_138 => ?_)
                      · exact absurd c_138 (by decide)
                      refine lv_iload hx hb dX8_guess_141 (lv_at hl 1 rfl) ?_
                      refine lv_if_eq (tgt := 150) hx hb dX8_guess_143 (by decide) (fun c_143 => ?_) (fun c_143 => ?_)
                      · exact absurd c_143 (by decide)
                      refine lv_iconst (v := (nI 3)) hx hb dX8_guess_146 (by decide) ?_
                      refine lv_goto (tgt := 166) hx hb dX8_guess_147 (by decide) ?_
                      refine fs_vi (y := ptF σ q0 b0) (pt_1 c_72 ((crF_iff hG hq0 hb0).mp c_88)) ?_
                      refine lv_iadd hx hb dX8_guess_166 ?_
                      refine fs_iast E hP hS (k := 240) m_16r0 (by omega) (vp_in_nI (by omega) (by omega)) dX8_guess_167 (fun ct_257 H locs q_258 hP hS => ?_)
                      rw [nI_clamp (by omega)] at q_258
                      have h_259 : ct_257 239 = .inr (8, [.ref (fa g 240), .ref (fa g 241), .int (z_9 0), .ref (fa g 242), .ref (fa g 243), .ref (fa g 244), .int (z_9 1), .ref (fa g 245), .int (z_9 2), .ref (fa g 246), .ref (fa g 247), .ref (fa g 248), .int (z_9 3), .int (z_9 4), .int (z_9 5), .int (z_9 6), .int (z_9 7), .int (z_9 8), .int (z_9 9)]) := by rw [q_258]; exact (fu_ne (by omega)).trans m_16o
                      have h_260 : ct_257 240 = .inl (fcI g, 121, .inl (upd (F_10 0) (9 + p0) ((σ (9 + p0)) + (ptF σ q0 b0)))) := by rw [q_258]; exact fu_eq _ _ _
                      have h_261 : ct_257 241 = .inl (fcI g, 726, .inl (F_10 1)) := by rw [q_258]; exact (fu_ne (by omega)).trans m_16r1
                      have h_262 : ct_257 242 = .inl (fcI g, 242, .inl (F_10 2)) := by rw [q_258]; exact (fu_ne (by omega)).trans m_16r2
                      have h_263 : ct_257 243 = .inl (fcI g, 2, .inl (F_10 3)) := by rw [q_258]; exact (fu_ne (by omega)).trans m_16r3
                      have h_264 : ct_257 244 = .inl (fcI g, 60, .inl (F_10 4)) := by rw [q_258]; exact (fu_ne (by omega)).trans m_16r4
                      have h_265 : ct_257 245 = .inl (fcI g, 6, .inl (F_10 5)) := by rw [q_258]; exact (fu_ne (by omega)).trans m_16r5
                      have h_266 : ct_257 246 = .inl (fcI g, 36, .inl (F_10 6)) := by rw [q_258]; exact (fu_ne (by omega)).trans m_16r6
                      have h_267 : ct_257 247 = .inl (fcI g, 20, .inl (F_10 7)) := by rw [q_258]; exact (fu_ne (by omega)).trans m_16r7
                      have h_268 : ct_257 248 = .inl (fcI g, 20, .inl (F_10 8)) := by rw [q_258]; exact (fu_ne (by omega)).trans m_16r8
                      refine lv_aload_n hx hb dX8_guess_168 rfl (lv_at hl 3 rfl) ?_
                      refine fs_get E hP (k := 239) (v := .ref (fa g 240)) 0 fc8 h_259 (by omega) (by decide) (wm wl_5 (i := 0) rfl) rfl dX8_guess_169 ?_
                      refine lv_bipush (v := (nI 15)) hx hb dX8_guess_172 (by decide) ?_
                      refine lv_iload_n hx hb dX8_guess_174 rfl (lv_at hl 4 rfl) ?_
                      refine lv_iadd hx hb dX8_guess_175 ?_
                      refine fs_vi (y := nI (15 + p0)) (nI_add _ _) ?_
                      refine lv_iconst (v := (nI 1)) hx hb dX8_guess_176 (by decide) ?_
                      refine fs_iast E hP hS (k := 240) h_260 (by omega) (vp_in_nI (by omega) (by omega)) dX8_guess_177 (fun ct_269 H locs q_270 hP hS => ?_)
                      rw [nI_clamp (by omega)] at q_270
                      have h_271 : ct_269 239 = .inr (8, [.ref (fa g 240), .ref (fa g 241), .int (z_9 0), .ref (fa g 242), .ref (fa g 243), .ref (fa g 244), .int (z_9 1), .ref (fa g 245), .int (z_9 2), .ref (fa g 246), .ref (fa g 247), .ref (fa g 248), .int (z_9 3), .int (z_9 4), .int (z_9 5), .int (z_9 6), .int (z_9 7), .int (z_9 8), .int (z_9 9)]) := by rw [q_270]; exact (fu_ne (by omega)).trans h_259
                      have h_272 : ct_269 240 = .inl (fcI g, 121, .inl (upd (upd (F_10 0) (9 + p0) ((σ (9 + p0)) + (ptF σ q0 b0))) (15 + p0) (nI 1))) := by rw [q_270]; exact fu_eq _ _ _
                      have h_273 : ct_269 241 = .inl (fcI g, 726, .inl (F_10 1)) := by rw [q_270]; exact (fu_ne (by omega)).trans h_261
                      have h_274 : ct_269 242 = .inl (fcI g, 242, .inl (F_10 2)) := by rw [q_270]; exact (fu_ne (by omega)).trans h_262
                      have h_275 : ct_269 243 = .inl (fcI g, 2, .inl (F_10 3)) := by rw [q_270]; exact (fu_ne (by omega)).trans h_263
                      have h_276 : ct_269 244 = .inl (fcI g, 60, .inl (F_10 4)) := by rw [q_270]; exact (fu_ne (by omega)).trans h_264
                      have h_277 : ct_269 245 = .inl (fcI g, 6, .inl (F_10 5)) := by rw [q_270]; exact (fu_ne (by omega)).trans h_265
                      have h_278 : ct_269 246 = .inl (fcI g, 36, .inl (F_10 6)) := by rw [q_270]; exact (fu_ne (by omega)).trans h_266
                      have h_279 : ct_269 247 = .inl (fcI g, 20, .inl (F_10 7)) := by rw [q_270]; exact (fu_ne (by omega)).trans h_267
                      have h_280 : ct_269 248 = .inl (fcI g, 20, .inl (F_10 8)) := by rw [q_270]; exact (fu_ne (by omega)).trans h_268
                      refine lv_aload_n hx hb dX8_guess_178 rfl (lv_at hl 3 rfl) ?_
                      refine fs_get E hP (k := 239) (v := .ref (fa g 240)) 0 fc8 h_271 (by omega) (by decide) (wm wl_5 (i := 0) rfl) rfl dX8_guess_179 ?_
                      refine lv_bipush (v := (nI 9)) hx hb dX8_guess_182 (by decide) ?_
                      refine lv_iload_n hx hb dX8_guess_184 rfl (lv_at hl 4 rfl) ?_
                      refine lv_iadd hx hb dX8_guess_185 ?_
                      refine fs_vi (y := nI (9 + p0)) (nI_add _ _) ?_
                      refine fs_iald E hP (k := 240) h_272 (by omega) (vp_in_nI (by omega) (by omega)) dX8_guess_186 ?_
                      refine fs_vi (y := (upd (upd (F_10 0) (9 + p0) ((σ (9 + p0)) + (ptF σ q0 b0))) (15 + p0) (nI 1)) (9 + p0)) (congrArg (upd (upd (F_10 0) (9 + p0) ((σ (9 + p0)) + (ptF σ q0 b0))) (15 + p0) (nI 1)) (nI_clamp (by omega))) ?_
                      refine fs_vi (y := (σ (9 + p0) + ptF σ q0 b0)) (by rw [upd_ne (by omega)]; exact upd_eq _ _ _) ?_
                      refine lv_sipush (v := (nI 1000)) hx hb dX8_guess_187 (by decide) ?_
                      refine lv_iadd hx hb dX8_guess_190 ?_
                      have MA8 : MA g ct_269 (mkz (z_9 0) (z_9 1) (z_9 2) (z_9 3) (z_9 4) (z_9 5) (z_9 6) (z_9 7) (z_9 8) (z_9 9)) (mkF (upd (upd (F_10 0) (9 + p0) ((σ (9 + p0)) + (ptF σ q0 b0))) (15 + p0) (nI 1)) (F_10 1) (F_10 2) (F_10 3) (F_10 4) (F_10 5) (F_10 6) (F_10 7) (F_10 8)) := ⟨h_271, h_272, h_273, h_274, h_275, h_276, h_277, h_278, h_279, h_280⟩
                      have hr9 := RH.kk hRH5 K_12
                      refine fs_iret E hr hlk hP hS dX8_guess_191 ?_
                      rw [nI_cl (show p0 < 1000000 by omega)]
                      rw [nI_cl (show q0 < 1000000 by omega)]
                      rw [nI_cl (show b0 < 1000000 by omega)]
                      refine ⟨?_, RFc_t ⟨⟨⟨c_5, c_13⟩, c_21⟩, (fun z => z.elim c_28 c_33), hg0⟩ (RFAt.ch hS9 hQ MA8 (fun i hi => upd_cg (upd_cg (T_15 i hi))) hr9 (K_12.1.2.trans e5) (K_12.2.2.2.1.trans f52) (K_12.2.2.2.2.1.trans f53) (K_12.2.2.2.2.2.trans f54)), (show fSame 239 249 _ _ from (fSame.ap (fSame.ap (fSame.tr2 (fSame.tr2 fSame.rf S_5 (by omega) (by omega)) S_14 (by omega) (by omega)) q_258 (by omega) (by omega)) q_270 (by omega) (by omega)))⟩
                      rw [if_pos ⟨⟨c_5, c_13⟩, c_21⟩, if_neg (fun z => z.elim c_28 c_33), if_neg (fun z => z hg0)]; exact Int32.add_comm _ _
                    · rw [fz_eqN (by omega)] at c_116
                      refine lv_iconst (v := (nI 1)) hx hb dX8_guess_119 (by decide) ?_
                      refine lv_goto (tgt := 124) hx hb dX8_guess_120 (by decide) ?_
                      refine lv_istore (lv' := [(6, .int (nI 1)), (5, .int (nI 1)), (4, .int (nI 1)), (0, .ref (fa g 239)), (1, .int (nI p0)), (2, .int (nI q0)), (3, .int (nI b0))]) hx hb dX8_guess_124 hl (by decide) rfl (fun ls hl => ?_)
                      refine lv_aload_n hx hb dX8_guess_126 rfl (lv_at hl 3 rfl) ?_
                      refine fs_get E hP (k := 239) (v := .ref (fa g 240)) 0 fc8 m_16o (by omega) (by decide) (wm wl_5 (i := 0) rfl) rfl dX8_guess_127 ?_
                      refine lv_bipush (v := (nI 9)) hx hb dX8_guess_130 (by decide) ?_
                      refine lv_iload_n hx hb dX8_guess_132 rfl (lv_at hl 4 rfl) ?_
                      refine lv_iadd hx hb dX8_guess_133 ?_
                      refine fs_vi (y := nI (9 + p0)) (nI_add _ _) ?_
                      refine lv_dup2_11 hx hb dX8_guess_134 rfl rfl ?_
                      refine fs_iald E hP (k := 240) m_16r0 (by omega) (vp_in_nI (by omega) (by omega)) dX8_guess_135 ?_
                      refine fs_vi (y := (F_10 0) (9 + p0)) (congrArg (F_10 0) (nI_clamp (by omega))) ?_
                      refine fs_vi (y := (σ (9 + p0))) (T_15 _ (by omega)) ?_
                      refine lv_iload hx hb dX8_guess_136 (lv_at hl 2 rfl) ?_
                      refine lv_if_eq (tgt := 154) hx hb dX8_guess_138 (by decide) (fun c_138 => ?_) (fun c_138 => ?_)
                      · exact absurd c_138 (by decide)
                      refine lv_iload hx hb dX8_guess_141 (lv_at hl 1 rfl) ?_
                      refine lv_if_eq (tgt := 150) hx hb dX8_guess_143 (by decide) (fun c_143 => ?_) (fun c_143 => ?_)
                      · exact absurd c_143 (by decide)
                      refine lv_iconst (v := (nI 3)) hx hb dX8_guess_146 (by decide) ?_
                      refine lv_goto (tgt := 166) hx hb dX8_guess_147 (by decide) ?_
                      refine fs_vi (y := ptF σ q0 b0) (pt_1 c_72 ((crF_iff hG hq0 hb0).mp c_88)) ?_
                      refine lv_iadd hx hb dX8_guess_166 ?_
                      refine fs_iast E hP hS (k := 240) m_16r0 (by omega) (vp_in_nI (by omega) (by omega)) dX8_guess_167 (fun ct_281 H locs q_282 hP hS => ?_)
                      rw [nI_clamp (by omega)] at q_282
                      have h_283 : ct_281 239 = .inr (8, [.ref (fa g 240), .ref (fa g 241), .int (z_9 0), .ref (fa g 242), .ref (fa g 243), .ref (fa g 244), .int (z_9 1), .ref (fa g 245), .int (z_9 2), .ref (fa g 246), .ref (fa g 247), .ref (fa g 248), .int (z_9 3), .int (z_9 4), .int (z_9 5), .int (z_9 6), .int (z_9 7), .int (z_9 8), .int (z_9 9)]) := by rw [q_282]; exact (fu_ne (by omega)).trans m_16o
                      have h_284 : ct_281 240 = .inl (fcI g, 121, .inl (upd (F_10 0) (9 + p0) ((σ (9 + p0)) + (ptF σ q0 b0)))) := by rw [q_282]; exact fu_eq _ _ _
                      have h_285 : ct_281 241 = .inl (fcI g, 726, .inl (F_10 1)) := by rw [q_282]; exact (fu_ne (by omega)).trans m_16r1
                      have h_286 : ct_281 242 = .inl (fcI g, 242, .inl (F_10 2)) := by rw [q_282]; exact (fu_ne (by omega)).trans m_16r2
                      have h_287 : ct_281 243 = .inl (fcI g, 2, .inl (F_10 3)) := by rw [q_282]; exact (fu_ne (by omega)).trans m_16r3
                      have h_288 : ct_281 244 = .inl (fcI g, 60, .inl (F_10 4)) := by rw [q_282]; exact (fu_ne (by omega)).trans m_16r4
                      have h_289 : ct_281 245 = .inl (fcI g, 6, .inl (F_10 5)) := by rw [q_282]; exact (fu_ne (by omega)).trans m_16r5
                      have h_290 : ct_281 246 = .inl (fcI g, 36, .inl (F_10 6)) := by rw [q_282]; exact (fu_ne (by omega)).trans m_16r6
                      have h_291 : ct_281 247 = .inl (fcI g, 20, .inl (F_10 7)) := by rw [q_282]; exact (fu_ne (by omega)).trans m_16r7
                      have h_292 : ct_281 248 = .inl (fcI g, 20, .inl (F_10 8)) := by rw [q_282]; exact (fu_ne (by omega)).trans m_16r8
                      refine lv_aload_n hx hb dX8_guess_168 rfl (lv_at hl 3 rfl) ?_
                      refine fs_get E hP (k := 239) (v := .ref (fa g 240)) 0 fc8 h_283 (by omega) (by decide) (wm wl_5 (i := 0) rfl) rfl dX8_guess_169 ?_
                      refine lv_bipush (v := (nI 15)) hx hb dX8_guess_172 (by decide) ?_
                      refine lv_iload_n hx hb dX8_guess_174 rfl (lv_at hl 4 rfl) ?_
                      refine lv_iadd hx hb dX8_guess_175 ?_
                      refine fs_vi (y := nI (15 + p0)) (nI_add _ _) ?_
                      refine lv_iconst (v := (nI 1)) hx hb dX8_guess_176 (by decide) ?_
                      refine fs_iast E hP hS (k := 240) h_284 (by omega) (vp_in_nI (by omega) (by omega)) dX8_guess_177 (fun ct_293 H locs q_294 hP hS => ?_)
                      rw [nI_clamp (by omega)] at q_294
                      have h_295 : ct_293 239 = .inr (8, [.ref (fa g 240), .ref (fa g 241), .int (z_9 0), .ref (fa g 242), .ref (fa g 243), .ref (fa g 244), .int (z_9 1), .ref (fa g 245), .int (z_9 2), .ref (fa g 246), .ref (fa g 247), .ref (fa g 248), .int (z_9 3), .int (z_9 4), .int (z_9 5), .int (z_9 6), .int (z_9 7), .int (z_9 8), .int (z_9 9)]) := by rw [q_294]; exact (fu_ne (by omega)).trans h_283
                      have h_296 : ct_293 240 = .inl (fcI g, 121, .inl (upd (upd (F_10 0) (9 + p0) ((σ (9 + p0)) + (ptF σ q0 b0))) (15 + p0) (nI 1))) := by rw [q_294]; exact fu_eq _ _ _
                      have h_297 : ct_293 241 = .inl (fcI g, 726, .inl (F_10 1)) := by rw [q_294]; exact (fu_ne (by omega)).trans h_285
                      have h_298 : ct_293 242 = .inl (fcI g, 242, .inl (F_10 2)) := by rw [q_294]; exact (fu_ne (by omega)).trans h_286
                      have h_299 : ct_293 243 = .inl (fcI g, 2, .inl (F_10 3)) := by rw [q_294]; exact (fu_ne (by omega)).trans h_287
                      have h_300 : ct_293 244 = .inl (fcI g, 60, .inl (F_10 4)) := by rw [q_294]; exact (fu_ne (by omega)).trans h_288
                      have h_301 : ct_293 245 = .inl (fcI g, 6, .inl (F_10 5)) := by rw [q_294]; exact (fu_ne (by omega)).trans h_289
                      have h_302 : ct_293 246 = .inl (fcI g, 36, .inl (F_10 6)) := by rw [q_294]; exact (fu_ne (by omega)).trans h_290
                      have h_303 : ct_293 247 = .inl (fcI g, 20, .inl (F_10 7)) := by rw [q_294]; exact (fu_ne (by omega)).trans h_291
                      have h_304 : ct_293 248 = .inl (fcI g, 20, .inl (F_10 8)) := by rw [q_294]; exact (fu_ne (by omega)).trans h_292
                      refine lv_aload_n hx hb dX8_guess_178 rfl (lv_at hl 3 rfl) ?_
                      refine fs_get E hP (k := 239) (v := .ref (fa g 240)) 0 fc8 h_295 (by omega) (by decide) (wm wl_5 (i := 0) rfl) rfl dX8_guess_179 ?_
                      refine lv_bipush (v := (nI 9)) hx hb dX8_guess_182 (by decide) ?_
                      refine lv_iload_n hx hb dX8_guess_184 rfl (lv_at hl 4 rfl) ?_
                      refine lv_iadd hx hb dX8_guess_185 ?_
                      refine fs_vi (y := nI (9 + p0)) (nI_add _ _) ?_
                      refine fs_iald E hP (k := 240) h_296 (by omega) (vp_in_nI (by omega) (by omega)) dX8_guess_186 ?_
                      refine fs_vi (y := (upd (upd (F_10 0) (9 + p0) ((σ (9 + p0)) + (ptF σ q0 b0))) (15 + p0) (nI 1)) (9 + p0)) (congrArg (upd (upd (F_10 0) (9 + p0) ((σ (9 + p0)) + (ptF σ q0 b0))) (15 + p0) (nI 1)) (nI_clamp (by omega))) ?_
                      refine fs_vi (y := (σ (9 + p0) + ptF σ q0 b0)) (by rw [upd_ne (by omega)]; exact upd_eq _ _ _) ?_
                      refine lv_sipush (v := (nI 1000)) hx hb dX8_guess_187 (by decide) ?_
                      refine lv_iadd hx hb dX8_guess_190 ?_
                      have MA8 : MA g ct_293 (mkz (z_9 0) (z_9 1) (z_9 2) (z_9 3) (z_9 4) (z_9 5) (z_9 6) (z_9 7) (z_9 8) (z_9 9)) (mkF (upd (upd (F_10 0) (9 + p0) ((σ (9 + p0)) + (ptF σ q0 b0))) (15 + p0) (nI 1)) (F_10 1) (F_10 2) (F_10 3) (F_10 4) (F_10 5) (F_10 6) (F_10 7) (F_10 8)) := ⟨h_295, h_296, h_297, h_298, h_299, h_300, h_301, h_302, h_303, h_304⟩
                      have hr9 := RH.kk hRH5 K_12
                      refine fs_iret E hr hlk hP hS dX8_guess_191 ?_
                      rw [nI_cl (show p0 < 1000000 by omega)]
                      rw [nI_cl (show q0 < 1000000 by omega)]
                      rw [nI_cl (show b0 < 1000000 by omega)]
                      refine ⟨?_, RFc_t ⟨⟨⟨c_5, c_13⟩, c_21⟩, (fun z => z.elim c_28 c_33), hg0⟩ (RFAt.ch hS9 hQ MA8 (fun i hi => upd_cg (upd_cg (T_15 i hi))) hr9 (K_12.1.2.trans e5) (K_12.2.2.2.1.trans f52) (K_12.2.2.2.2.1.trans f53) (K_12.2.2.2.2.2.trans f54)), (show fSame 239 249 _ _ from (fSame.ap (fSame.ap (fSame.tr2 (fSame.tr2 fSame.rf S_5 (by omega) (by omega)) S_14 (by omega) (by omega)) q_282 (by omega) (by omega)) q_294 (by omega) (by omega)))⟩
                      rw [if_pos ⟨⟨c_5, c_13⟩, c_21⟩, if_neg (fun z => z.elim c_28 c_33), if_neg (fun z => z hg0)]; exact Int32.add_comm _ _
            · have hg0 : ¬ σ (15 + p0) = 0 := fun y => absurd (y.symm.trans c_49) (by decide)
              refine lv_bipush (v := (-5)) hx hb dX8_guess_52 (by decide) ?_
              refine fs_iret E hr hlk hP hS dX8_guess_54 ?_
              rw [nI_cl (show p0 < 1000000 by omega)]
              refine ⟨?_, RFc_f (fun z => hg0 z.2.2) hR, fSame.rf⟩
              rw [if_pos ⟨⟨c_5, c_13⟩, c_21⟩, if_neg (fun z => z.elim c_28 c_33), if_pos hg0]
          · refine lv_bipush (v := (-2)) hx hb dX8_guess_36 (by decide) ?_
            refine fs_iret E hr hlk hP hS dX8_guess_38 ?_
            refine ⟨?_, RFc_f (fun z => z.2.1 (Or.inr c_33)) hR, fSame.rf⟩
            rw [if_pos ⟨⟨c_5, c_13⟩, c_21⟩, if_pos (Or.inr c_33)]
      · have c_21 := (fb_0 p_18).mp c_21
        refine lv_iconst (v := (-1)) hx hb dX8_guess_24 (by decide) ?_
        refine fs_iret E hr hlk hP hS dX8_guess_25 ?_
        refine ⟨?_, RFc_f (fun z => by have := z.1; omega) hR, fSame.rf⟩
        rw [if_neg (fun z => by omega)]
