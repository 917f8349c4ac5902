theorem hdr_sc {σ : Nat → Int32} (H : Good σ) {m r : Nat} (hm : m ≤ nT σ) : hdr (sSc σ m) (lkf (sSc σ m)) r = hdr σ (lkf σ) r := by
  unfold hdr; rw [nB_sc H hm, lkf_sc H hm, rk_sc H hm, rk_sc H hm, rk_sc H hm]
set_option maxRecDepth 100000 in
set_option maxHeartbeats 4000000 in
theorem c_X8_endAct (l : Launch) (g : fG) (N : Nat) (ct : Nat → va_E) (σ : Nat → Int32) (k : Nat) (hs : Nat → Nat → Int32) (u1 : Bool) (s1 : Nat → Int32) (u2 : Bool) (s2 : Nat → Int32) (t : Nat → Nat) (len : Nat) (hN : 249 ≤ N) (hG : Good σ) (hR : RFAt g ct σ k hs u1 s1 u2 s2 t len) : Met l yX8_endAct (wsU yX8_endAct cX8_endAct 2 (some .int)) rX8_endAct (fPre g N ct [.ref (fa g 239)]) (fQi g N (fun r ct1 => r = sEnd σ 2 ∧ RFAt g ct1 (sEnd σ) (min (k + 1) 6) (recH σ hs) u1 s1 u2 s2 t len ∧ fSame 239 249 ct ct1)) 0 0 (fB g) := by
  refine fs_start (own := RX8) (lv0 := [(0, .ref (fa g 239))]) (by decide) rfl (Nat.le_of_ble_eq_true rfl) rfl ?_
  intro p e s m args below meth c ls E hr hlk hnm hP hl hS
  have hx := E.1.1
  have hb := E.1.2.1
  obtain ⟨z, F, hM, hT, hH, hS9, hQ⟩ := id hR
  have m_1o : ct 239 = .inr (8, [.ref (fa g 240), .ref (fa g 241), .int (z 0), .ref (fa g 242), .ref (fa g 243), .ref (fa g 244), .int (z 1), .ref (fa g 245), .int (z 2), .ref (fa g 246), .ref (fa g 247), .ref (fa g 248), .int (z 3), .int (z 4), .int (z 5), .int (z 6), .int (z 7), .int (z 8), .int (z 9)]) := (hM).1
  have m_1r0 : ct 240 = .inl (fcI g, 121, .inl (F 0)) := (hM).2.1
  have m_1r1 : ct 241 = .inl (fcI g, 726, .inl (F 1)) := (hM).2.2.1
  have m_1r2 : ct 242 = .inl (fcI g, 242, .inl (F 2)) := (hM).2.2.2.1
  have m_1r3 : ct 243 = .inl (fcI g, 2, .inl (F 3)) := (hM).2.2.2.2.1
  have m_1r4 : ct 244 = .inl (fcI g, 60, .inl (F 4)) := (hM).2.2.2.2.2.1
  have m_1r5 : ct 245 = .inl (fcI g, 6, .inl (F 5)) := (hM).2.2.2.2.2.2.1
  have m_1r6 : ct 246 = .inl (fcI g, 36, .inl (F 6)) := (hM).2.2.2.2.2.2.2.1
  have m_1r7 : ct 247 = .inl (fcI g, 20, .inl (F 7)) := (hM).2.2.2.2.2.2.2.2.1
  have m_1r8 : ct 248 = .inl (fcI g, 20, .inl (F 8)) := (hM).2.2.2.2.2.2.2.2.2
  have hn3 := hG.n3
  have hn6 := hG.n6
  have hk20 := hG.k
  refine lv_aload_n hx hb dX8_endAct_0 rfl (lv_at hl 0 rfl) ?_
  refine fs_v (va_runV (As := []) (rest := []) E.1 (c_X8_record l g N ct z F σ (by omega) hG hM hT k hs hH) (lk_RX8_105 E.1.2.2.2.2 ⟨Nat.le_of_ble_eq_true rfl, Nat.le_of_ble_eq_true rfl⟩) (fpreV E hP hS fc8 m_1o (by omega)) rfl rfl hl.1 rfl (lv_room (Nat.le_of_ble_eq_true rfl)) dX8_endAct_1 ⟨Nat.zero_le _, Nat.zero_le _⟩) hS (fun ct_2 H locs p_1 hP hS => ?_)
  obtain ⟨z_3, F_4, M5, hRH5, e5, f50, f52, f53, f54, S_5⟩ := p_1
  have T_6 : SR σ F_4 := fun i hi => by rw [f50]; exact hT i hi
  have m_7o : ct_2 239 = .inr (8, [.ref (fa g 240), .ref (fa g 241), .int (z_3 0), .ref (fa g 242), .ref (fa g 243), .ref (fa g 244), .int (z_3 1), .ref (fa g 245), .int (z_3 2), .ref (fa g 246), .ref (fa g 247), .ref (fa g 248), .int (z_3 3), .int (z_3 4), .int (z_3 5), .int (z_3 6), .int (z_3 7), .int (z_3 8), .int (z_3 9)]) := (M5).1
  have m_7r0 : ct_2 240 = .inl (fcI g, 121, .inl (F_4 0)) := (M5).2.1
  have m_7r1 : ct_2 241 = .inl (fcI g, 726, .inl (F_4 1)) := (M5).2.2.1
  have m_7r2 : ct_2 242 = .inl (fcI g, 242, .inl (F_4 2)) := (M5).2.2.2.1
  have m_7r3 : ct_2 243 = .inl (fcI g, 2, .inl (F_4 3)) := (M5).2.2.2.2.1
  have m_7r4 : ct_2 244 = .inl (fcI g, 60, .inl (F_4 4)) := (M5).2.2.2.2.2.1
  have m_7r5 : ct_2 245 = .inl (fcI g, 6, .inl (F_4 5)) := (M5).2.2.2.2.2.2.1
  have m_7r6 : ct_2 246 = .inl (fcI g, 36, .inl (F_4 6)) := (M5).2.2.2.2.2.2.2.1
  have m_7r7 : ct_2 247 = .inl (fcI g, 20, .inl (F_4 7)) := (M5).2.2.2.2.2.2.2.2.1
  have m_7r8 : ct_2 248 = .inl (fcI g, 20, .inl (F_4 8)) := (M5).2.2.2.2.2.2.2.2.2
  refine lv_iconst (v := (nI 0)) hx hb dX8_endAct_4 (by decide) ?_
  refine lv_istore_n (lv' := [(1, .int (nI 0)), (0, .ref (fa g 239))]) hx hb dX8_endAct_5 rfl hl (by decide) rfl (fun ls hl => ?_)
  have MA_8 : MA g ct_2 (mkz (z_3 0) (z_3 1) (z_3 2) (z_3 3) (z_3 4) (z_3 5) (z_3 6) (z_3 7) (z_3 8) (z_3 9)) (mkF (F_4 0) (F_4 1) (F_4 2) (F_4 3) (F_4 4) (F_4 5) (F_4 6) (F_4 7) (F_4 8)) := ⟨m_7o, m_7r0, m_7r1, m_7r2, m_7r3, m_7r4, m_7r5, m_7r6, m_7r7, m_7r8⟩
  refine fs_ind (g := g) (N := N) (St := Nat) (fun (i : Nat) (ct_9 : Nat → va_E) (ls : Array Slot) => lv_has ls 2 [(0, .ref (fa g 239)), (1, .int (nI i))] ∧ ∃ (z1 : Nat → Int32) (F1 : Nat → Nat → Int32), MA g ct_9 z1 F1 ∧ (i ≤ nT σ ∧ ((z1 0 = z_3 0 ∧ z1 1 = z_3 1) ∧ F1 1 = F_4 1 ∧ F1 2 = F_4 2 ∧ F1 3 = F_4 3 ∧ F1 4 = F_4 4) ∧ SR (sSc σ i) F1) ∧ fSame 239 249 ct ct_9) (fun i => nT σ - i) ?_ 0 _ _ ls _ ⟨lv_sub hl [1, 0] rfl, ⟨(mkz (z_3 0) (z_3 1) (z_3 2) (z_3 3) (z_3 4) (z_3 5) (z_3 6) (z_3 7) (z_3 8) (z_3 9)), (mkF (F_4 0) (F_4 1) (F_4 2) (F_4 3) (F_4 4) (F_4 5) (F_4 6) (F_4 7) (F_4 8)), MA_8, ⟨Nat.zero_le _, ⟨⟨rfl, rfl⟩, rfl, rfl, rfl, rfl⟩, T_6⟩, (show fSame 239 249 _ _ from (fSame.tr2 fSame.rf S_5 (by omega) (by omega)))⟩⟩ hP hS
  clear hl hP hS
  intro st ct_9 H ls locs hI hP hS ih
  obtain ⟨i, rfl⟩ : ∃ z, z = st := ⟨_, rfl⟩
  obtain ⟨hl, z1, F1, hM1, hI, hsm⟩ := hI
  have m_10o : ct_9 239 = .inr (8, [.ref (fa g 240), .ref (fa g 241), .int (z1 0), .ref (fa g 242), .ref (fa g 243), .ref (fa g 244), .int (z1 1), .ref (fa g 245), .int (z1 2), .ref (fa g 246), .ref (fa g 247), .ref (fa g 248), .int (z1 3), .int (z1 4), .int (z1 5), .int (z1 6), .int (z1 7), .int (z1 8), .int (z1 9)]) := (hM1).1
  have m_10r0 : ct_9 240 = .inl (fcI g, 121, .inl (F1 0)) := (hM1).2.1
  have m_10r1 : ct_9 241 = .inl (fcI g, 726, .inl (F1 1)) := (hM1).2.2.1
  have m_10r2 : ct_9 242 = .inl (fcI g, 242, .inl (F1 2)) := (hM1).2.2.2.1
  have m_10r3 : ct_9 243 = .inl (fcI g, 2, .inl (F1 3)) := (hM1).2.2.2.2.1
  have m_10r4 : ct_9 244 = .inl (fcI g, 60, .inl (F1 4)) := (hM1).2.2.2.2.2.1
  have m_10r5 : ct_9 245 = .inl (fcI g, 6, .inl (F1 5)) := (hM1).2.2.2.2.2.2.1
  have m_10r6 : ct_9 246 = .inl (fcI g, 36, .inl (F1 6)) := (hM1).2.2.2.2.2.2.2.1
  have m_10r7 : ct_9 247 = .inl (fcI g, 20, .inl (F1 7)) := (hM1).2.2.2.2.2.2.2.2.1
  have m_10r8 : ct_9 248 = .inl (fcI g, 20, .inl (F1 8)) := (hM1).2.2.2.2.2.2.2.2.2
  have hI1 := hI.1
  have hTl := hI.2.2
  have hK5 := hI.2.1
  have hnr := nT_sc hG hI1
  refine lv_iload_n hx hb dX8_endAct_6 rfl (lv_at hl 1 rfl) ?_
  refine lv_aload_n hx hb dX8_endAct_7 rfl (lv_at hl 0 rfl) ?_
  refine fs_get E hP (k := 239) (v := .ref (fa g 240)) 0 fc8 m_10o (by omega) (by decide) (wm wl_5 (i := 0) rfl) rfl dX8_endAct_8 ?_
  refine lv_iconst (v := (nI 1)) hx hb dX8_endAct_11 (by decide) ?_
  refine fs_iald E hP (k := 240) m_10r0 (by omega) (vp_in_nI (by omega) (by omega)) dX8_endAct_12 ?_
  refine fs_vi (y := (F1 0) 1) (congrArg (F1 0) (nI_clamp (by omega))) ?_
  refine fs_vi (y := (nI (nT σ))) ((hTl.k (Good_sc hG hI1)).trans (congrArg nI hnr)) ?_
  refine lv_icmp_ge (tgt := 52) hx hb dX8_endAct_13 (by decide) (fun c_13 => ?_) (fun c_13 => ?_)
  · rw [nI_leI (by omega) (by omega)] at c_13
    have hin : i = nT σ := by omega
    have hJ := hI
    rw [hin] at hJ
    clear ih hI hTl hK5 hI1 hnr
    refine lv_iconst (v := (nI 0)) hx hb dX8_endAct_52 (by decide) ?_
    refine lv_istore_n (lv' := [(1, .int (nI 0)), (0, .ref (fa g 239))]) hx hb dX8_endAct_53 rfl hl (by decide) rfl (fun ls hl => ?_)
    have MA_11 : MA g ct_9 (mkz (z1 0) (z1 1) (z1 2) (z1 3) (z1 4) (z1 5) (z1 6) (z1 7) (z1 8) (z1 9)) (mkF (F1 0) (F1 1) (F1 2) (F1 3) (F1 4) (F1 5) (F1 6) (F1 7) (F1 8)) := ⟨m_10o, m_10r0, m_10r1, m_10r2, m_10r3, m_10r4, m_10r5, m_10r6, m_10r7, m_10r8⟩
    refine fs_ind (g := g) (N := N) (St := Nat) (fun (p : Nat) (ct_12 : Nat → va_E) (ls : Array Slot) => lv_has ls 2 [(0, .ref (fa g 239)), (1, .int (nI p))] ∧ ∃ (z1 : Nat → Int32) (F1 : Nat → Nat → Int32), MA g ct_12 z1 F1 ∧ (p ≤ 6 ∧ ((z1 0 = z_3 0 ∧ z1 1 = z_3 1) ∧ F1 1 = F_4 1 ∧ F1 2 = F_4 2 ∧ F1 3 = F_4 3 ∧ F1 4 = F_4 4) ∧ ∀ j, j < 121 → F1 0 j = (if 15 ≤ j ∧ j < 15 + p then nI 0 else sSc σ (nT σ) j)) ∧ fSame 239 249 ct ct_12) (fun p => 6 - p) ?_ 0 _ _ ls _ ⟨lv_sub hl [1, 0] rfl, ⟨(mkz (z1 0) (z1 1) (z1 2) (z1 3) (z1 4) (z1 5) (z1 6) (z1 7) (z1 8) (z1 9)), (mkF (F1 0) (F1 1) (F1 2) (F1 3) (F1 4) (F1 5) (F1 6) (F1 7) (F1 8)), MA_11, ⟨Nat.zero_le _, hJ.2.1, fun j hj => (hJ.2.2 j hj).trans (if_neg (by omega)).symm⟩, (show fSame 239 249 _ _ from fSame.tr hsm fSame.rf)⟩⟩ hP hS
    clear hl hP hS
    intro st ct_12 H ls locs hI hP hS ih
    obtain ⟨p, rfl⟩ : ∃ z, z = st := ⟨_, rfl⟩
    obtain ⟨hl, z1, F1, hM1, hI, hsm⟩ := hI
    have m_13o : ct_12 239 = .inr (8, [.ref (fa g 240), .ref (fa g 241), .int (z1 0), .ref (fa g 242), .ref (fa g 243), .ref (fa g 244), .int (z1 1), .ref (fa g 245), .int (z1 2), .ref (fa g 246), .ref (fa g 247), .ref (fa g 248), .int (z1 3), .int (z1 4), .int (z1 5), .int (z1 6), .int (z1 7), .int (z1 8), .int (z1 9)]) := (hM1).1
    have m_13r0 : ct_12 240 = .inl (fcI g, 121, .inl (F1 0)) := (hM1).2.1
    have m_13r1 : ct_12 241 = .inl (fcI g, 726, .inl (F1 1)) := (hM1).2.2.1
    have m_13r2 : ct_12 242 = .inl (fcI g, 242, .inl (F1 2)) := (hM1).2.2.2.1
    have m_13r3 : ct_12 243 = .inl (fcI g, 2, .inl (F1 3)) := (hM1).2.2.2.2.1
    have m_13r4 : ct_12 244 = .inl (fcI g, 60, .inl (F1 4)) := (hM1).2.2.2.2.2.1
    have m_13r5 : ct_12 245 = .inl (fcI g, 6, .inl (F1 5)) := (hM1).2.2.2.2.2.2.1
    have m_13r6 : ct_12 246 = .inl (fcI g, 36, .inl (F1 6)) := (hM1).2.2.2.2.2.2.2.1
    have m_13r7 : ct_12 247 = .inl (fcI g, 20, .inl (F1 7)) := (hM1).2.2.2.2.2.2.2.2.1
    have m_13r8 : ct_12 248 = .inl (fcI g, 20, .inl (F1 8)) := (hM1).2.2.2.2.2.2.2.2.2
    have hI1 := hI.1
    have hK5 := hI.2.1
    refine lv_iload_n hx hb dX8_endAct_54 rfl (lv_at hl 1 rfl) ?_
    refine lv_bipush (v := (nI 6)) hx hb dX8_endAct_55 (by decide) ?_
    refine lv_icmp_ge (tgt := 76) hx hb dX8_endAct_57 (by decide) (fun c_57 => ?_) (fun c_57 => ?_)
    · rw [nI_leI (by omega) (by omega)] at c_57
      refine lv_aload_n hx hb dX8_endAct_76 rfl (lv_at hl 0 rfl) ?_
      refine fs_get E hP (k := 239) (v := .ref (fa g 240)) 0 fc8 m_13o (by omega) (by decide) (wm wl_5 (i := 0) rfl) rfl dX8_endAct_77 ?_
      refine lv_iconst (v := (nI 1)) hx hb dX8_endAct_80 (by decide) ?_
      refine lv_iconst (v := (nI 0)) hx hb dX8_endAct_81 (by decide) ?_
      refine fs_iast E hP hS (k := 240) m_13r0 (by omega) (vp_in_nI (by omega) (by omega)) dX8_endAct_82 (fun ct_14 H locs q_15 hP hS => ?_)
      rw [nI_clamp (by omega)] at q_15
      have h_16 : ct_14 239 = .inr (8, [.ref (fa g 240), .ref (fa g 241), .int (z1 0), .ref (fa g 242), .ref (fa g 243), .ref (fa g 244), .int (z1 1), .ref (fa g 245), .int (z1 2), .ref (fa g 246), .ref (fa g 247), .ref (fa g 248), .int (z1 3), .int (z1 4), .int (z1 5), .int (z1 6), .int (z1 7), .int (z1 8), .int (z1 9)]) := by rw [q_15]; exact (fu_ne (by omega)).trans m_13o
      have h_17 : ct_14 240 = .inl (fcI g, 121, .inl (upd (F1 0) 1 (nI 0))) := by rw [q_15]; exact fu_eq _ _ _
      have h_18 : ct_14 241 = .inl (fcI g, 726, .inl (F1 1)) := by rw [q_15]; exact (fu_ne (by omega)).trans m_13r1
      have h_19 : ct_14 242 = .inl (fcI g, 242, .inl (F1 2)) := by rw [q_15]; exact (fu_ne (by omega)).trans m_13r2
      have h_20 : ct_14 243 = .inl (fcI g, 2, .inl (F1 3)) := by rw [q_15]; exact (fu_ne (by omega)).trans m_13r3
      have h_21 : ct_14 244 = .inl (fcI g, 60, .inl (F1 4)) := by rw [q_15]; exact (fu_ne (by omega)).trans m_13r4
      have h_22 : ct_14 245 = .inl (fcI g, 6, .inl (F1 5)) := by rw [q_15]; exact (fu_ne (by omega)).trans m_13r5
      have h_23 : ct_14 246 = .inl (fcI g, 36, .inl (F1 6)) := by rw [q_15]; exact (fu_ne (by omega)).trans m_13r6
      have h_24 : ct_14 247 = .inl (fcI g, 20, .inl (F1 7)) := by rw [q_15]; exact (fu_ne (by omega)).trans m_13r7
      have h_25 : ct_14 248 = .inl (fcI g, 20, .inl (F1 8)) := by rw [q_15]; exact (fu_ne (by omega)).trans m_13r8
      refine lv_aload_n hx hb dX8_endAct_83 rfl (lv_at hl 0 rfl) ?_
      refine fs_get E hP (k := 239) (v := .ref (fa g 240)) 0 fc8 h_16 (by omega) (by decide) (wm wl_5 (i := 0) rfl) rfl dX8_endAct_84 ?_
      refine lv_iconst (v := (nI 2)) hx hb dX8_endAct_87 (by decide) ?_
      refine lv_dup2_11 hx hb dX8_endAct_88 rfl rfl ?_
      refine fs_iald E hP (k := 240) h_17 (by omega) (vp_in_nI (by omega) (by omega)) dX8_endAct_89 ?_
      refine fs_vi (y := (upd (F1 0) 1 (nI 0)) 2) (congrArg (upd (F1 0) 1 (nI 0)) (nI_clamp (by omega))) ?_
      refine fs_vi (y := (σ 2)) (by rw [upd_ne (by omega), hI.2.2 2 (by omega), if_neg (by omega)]; exact sSc_o hG (Nat.le_refl _) (by omega)) ?_
      refine lv_iconst (v := (nI 1)) hx hb dX8_endAct_90 (by decide) ?_
      refine lv_iadd hx hb dX8_endAct_91 ?_
      refine fs_iast E hP hS (k := 240) h_17 (by omega) (vp_in_nI (by omega) (by omega)) dX8_endAct_92 (fun ct_26 H locs q_27 hP hS => ?_)
      rw [nI_clamp (by omega)] at q_27
      have h_28 : ct_26 239 = .inr (8, [.ref (fa g 240), .ref (fa g 241), .int (z1 0), .ref (fa g 242), .ref (fa g 243), .ref (fa g 244), .int (z1 1), .ref (fa g 245), .int (z1 2), .ref (fa g 246), .ref (fa g 247), .ref (fa g 248), .int (z1 3), .int (z1 4), .int (z1 5), .int (z1 6), .int (z1 7), .int (z1 8), .int (z1 9)]) := by rw [q_27]; exact (fu_ne (by omega)).trans h_16
      have h_29 : ct_26 240 = .inl (fcI g, 121, .inl (upd (upd (F1 0) 1 (nI 0)) 2 ((σ 2) + (nI 1)))) := by rw [q_27]; exact fu_eq _ _ _
      have h_30 : ct_26 241 = .inl (fcI g, 726, .inl (F1 1)) := by rw [q_27]; exact (fu_ne (by omega)).trans h_18
      have h_31 : ct_26 242 = .inl (fcI g, 242, .inl (F1 2)) := by rw [q_27]; exact (fu_ne (by omega)).trans h_19
      have h_32 : ct_26 243 = .inl (fcI g, 2, .inl (F1 3)) := by rw [q_27]; exact (fu_ne (by omega)).trans h_20
      have h_33 : ct_26 244 = .inl (fcI g, 60, .inl (F1 4)) := by rw [q_27]; exact (fu_ne (by omega)).trans h_21
      have h_34 : ct_26 245 = .inl (fcI g, 6, .inl (F1 5)) := by rw [q_27]; exact (fu_ne (by omega)).trans h_22
      have h_35 : ct_26 246 = .inl (fcI g, 36, .inl (F1 6)) := by rw [q_27]; exact (fu_ne (by omega)).trans h_23
      have h_36 : ct_26 247 = .inl (fcI g, 20, .inl (F1 7)) := by rw [q_27]; exact (fu_ne (by omega)).trans h_24
      have h_37 : ct_26 248 = .inl (fcI g, 20, .inl (F1 8)) := by rw [q_27]; exact (fu_ne (by omega)).trans h_25
      refine lv_aload_n hx hb dX8_endAct_93 rfl (lv_at hl 0 rfl) ?_
      refine fs_get E hP (k := 239) (v := .ref (fa g 240)) 0 fc8 h_28 (by omega) (by decide) (wm wl_5 (i := 0) rfl) rfl dX8_endAct_94 ?_
      refine lv_iconst (v := (nI 2)) hx hb dX8_endAct_97 (by decide) ?_
      refine fs_iald E hP (k := 240) h_29 (by omega) (vp_in_nI (by omega) (by omega)) dX8_endAct_98 ?_
      refine fs_vi (y := (upd (upd (F1 0) 1 (nI 0)) 2 ((σ 2) + (nI 1))) 2) (congrArg (upd (upd (F1 0) 1 (nI 0)) 2 ((σ 2) + (nI 1))) (nI_clamp (by omega))) ?_
      refine fs_vi (y := (σ 2 + nI 1)) (upd_eq _ _ _) ?_
      have MA8 : MA g ct_26 (mkz (z1 0) (z1 1) (z1 2) (z1 3) (z1 4) (z1 5) (z1 6) (z1 7) (z1 8) (z1 9)) (mkF (upd (upd (F1 0) 1 (nI 0)) 2 ((σ 2) + (nI 1))) (F1 1) (F1 2) (F1 3) (F1 4) (F1 5) (F1 6) (F1 7) (F1 8)) := ⟨h_28, h_29, h_30, h_31, h_32, h_33, h_34, h_35, h_36, h_37⟩
      have hp6 : p = 6 := by omega
      have hr2 : F1 0 2 = σ 2 := by rw [hI.2.2 2 (by omega), if_neg (by omega)]; exact sSc_o hG (Nat.le_refl _) (by omega)
      have hs8 : ∀ j, j < 121 → upd (upd (F1 0) 1 (nI 0)) 2 (σ 2 + nI 1) j = sEnd σ j := fun j hj => by
        unfold sEnd
        by_cases y2 : j = 2
        · subst y2; rw [upd_eq, if_neg (by omega), if_pos rfl]; rfl
        · by_cases y1 : j = 1
          · subst y1; rw [upd_ne (by omega), upd_eq, if_pos rfl]
          · rw [upd_ne y2, upd_ne y1, if_neg y1, if_neg y2, hI.2.2 j hj, hp6]
      refine fs_iret E hr hlk hP hS dX8_endAct_99 ?_
      refine ⟨?_, RFAt.ch hS9 hQ MA8 hs8 ⟨hK5.1.1.trans hRH5.1, hRH5.2.1, fun i j hi hj => (congrFun hK5.2.1 _).trans (hRH5.2.2 i j hi hj)⟩ (hK5.1.2.trans e5) (hK5.2.2.1.trans f52) (hK5.2.2.2.1.trans f53) (hK5.2.2.2.2.trans f54), (show fSame 239 249 _ _ from fSame.tr hsm (fSame.ap (fSame.ap fSame.rf q_15 (by omega) (by omega)) q_27 (by omega) (by omega)))⟩
      unfold sEnd; rw [if_neg (by omega), if_pos rfl]; rfl
    · rw [nI_leI (by omega) (by omega)] at c_57
      refine lv_aload_n hx hb dX8_endAct_60 rfl (lv_at hl 0 rfl) ?_
      refine fs_get E hP (k := 239) (v := .ref (fa g 240)) 0 fc8 m_13o (by omega) (by decide) (wm wl_5 (i := 0) rfl) rfl dX8_endAct_61 ?_
      refine lv_bipush (v := (nI 15)) hx hb dX8_endAct_64 (by decide) ?_
      refine lv_iload_n hx hb dX8_endAct_66 rfl (lv_at hl 1 rfl) ?_
      refine lv_iadd hx hb dX8_endAct_67 ?_
      refine fs_vi (y := nI (15 + p)) (nI_add _ _) ?_
      refine lv_iconst (v := (nI 0)) hx hb dX8_endAct_68 (by decide) ?_
      refine fs_iast E hP hS (k := 240) m_13r0 (by omega) (vp_in_nI (by omega) (by omega)) dX8_endAct_69 (fun ct_38 H locs q_39 hP hS => ?_)
      rw [nI_clamp (by omega)] at q_39
      have h_40 : ct_38 239 = .inr (8, [.ref (fa g 240), .ref (fa g 241), .int (z1 0), .ref (fa g 242), .ref (fa g 243), .ref (fa g 244), .int (z1 1), .ref (fa g 245), .int (z1 2), .ref (fa g 246), .ref (fa g 247), .ref (fa g 248), .int (z1 3), .int (z1 4), .int (z1 5), .int (z1 6), .int (z1 7), .int (z1 8), .int (z1 9)]) := by rw [q_39]; exact (fu_ne (by omega)).trans m_13o
      have h_41 : ct_38 240 = .inl (fcI g, 121, .inl (upd (F1 0) (15 + p) (nI 0))) := by rw [q_39]; exact fu_eq _ _ _
      have h_42 : ct_38 241 = .inl (fcI g, 726, .inl (F1 1)) := by rw [q_39]; exact (fu_ne (by omega)).trans m_13r1
      have h_43 : ct_38 242 = .inl (fcI g, 242, .inl (F1 2)) := by rw [q_39]; exact (fu_ne (by omega)).trans m_13r2
      have h_44 : ct_38 243 = .inl (fcI g, 2, .inl (F1 3)) := by rw [q_39]; exact (fu_ne (by omega)).trans m_13r3
      have h_45 : ct_38 244 = .inl (fcI g, 60, .inl (F1 4)) := by rw [q_39]; exact (fu_ne (by omega)).trans m_13r4
      have h_46 : ct_38 245 = .inl (fcI g, 6, .inl (F1 5)) := by rw [q_39]; exact (fu_ne (by omega)).trans m_13r5
      have h_47 : ct_38 246 = .inl (fcI g, 36, .inl (F1 6)) := by rw [q_39]; exact (fu_ne (by omega)).trans m_13r6
      have h_48 : ct_38 247 = .inl (fcI g, 20, .inl (F1 7)) := by rw [q_39]; exact (fu_ne (by omega)).trans m_13r7
      have h_49 : ct_38 248 = .inl (fcI g, 20, .inl (F1 8)) := by rw [q_39]; exact (fu_ne (by omega)).trans m_13r8
      refine lv_iinc (v := (nI (p + 1))) (lv' := [(1, .int (nI (p + 1))), (0, .ref (fa g 239))]) hx hb dX8_endAct_70 hl (k := 1) rfl (nI_1 _) (by decide) rfl (fun ls hl => ?_)
      refine lv_goto (tgt := 54) hx hb dX8_endAct_73 (by decide) ?_
      have MA9 : MA g ct_38 (mkz (z1 0) (z1 1) (z1 2) (z1 3) (z1 4) (z1 5) (z1 6) (z1 7) (z1 8) (z1 9)) (mkF (upd (F1 0) (15 + p) (nI 0)) (F1 1) (F1 2) (F1 3) (F1 4) (F1 5) (F1 6) (F1 7) (F1 8)) := ⟨h_40, h_41, h_42, h_43, h_44, h_45, h_46, h_47, h_48, h_49⟩
      have hs9 : ∀ j, j < 121 → upd (F1 0) (15 + p) (nI 0) j = (if 15 ≤ j ∧ j < 15 + (p + 1) then nI 0 else sSc σ (nT σ) j) := fun j hj => by
        by_cases y : j = 15 + p
        · subst y; rw [upd_eq, if_pos (by omega)]
        · rw [upd_ne y, hI.2.2 j hj]
          by_cases u : 15 ≤ j ∧ j < 15 + p
          · rw [if_pos u, if_pos (by omega)]
          · rw [if_neg u, if_neg (by omega)]
      exact ih (p + 1) _ _ ls _ (by (try dsimp only); omega) ⟨lv_sub hl [1, 0] rfl, ⟨_, _, MA9, ⟨by omega, hI.2.1, hs9⟩, (show fSame 239 249 _ _ from fSame.tr hsm (fSame.ap fSame.rf q_39 (by omega) (by omega)))⟩⟩ hP hS
  · rw [nI_leI (by omega) (by omega)] at c_13
    refine lv_aload_n hx hb dX8_endAct_16 rfl (lv_at hl 0 rfl) ?_
    refine fs_get E hP (k := 239) (v := .ref (fa g 240)) 0 fc8 m_10o (by omega) (by decide) (wm wl_5 (i := 0) rfl) rfl dX8_endAct_17 ?_
    refine lv_bipush (v := (nI 9)) hx hb dX8_endAct_20 (by decide) ?_
    refine lv_aload_n hx hb dX8_endAct_22 rfl (lv_at hl 0 rfl) ?_
    refine lv_iload_n hx hb dX8_endAct_23 rfl (lv_at hl 1 rfl) ?_
    refine lv_iconst (v := (nI 0)) hx hb dX8_endAct_24 (by decide) ?_
    refine fs_pi (va_runV (As := [.int (nI i), .int (nI 0)]) (rest := [.int (nI 9), .ref (fa g 240)]) E.1 (c_X8_part l g N ct_9 z1 F1 (sSc σ i) (by omega) (Good_sc hG hI1) hM1 hTl i 0 (by omega)) (lk_RX8_53 E.1.2.2.2.2 ⟨Nat.le_of_ble_eq_true rfl, Nat.le_of_ble_eq_true rfl⟩) (fpreV E hP hS fc8 m_10o (by omega)) rfl rfl hl.1 rfl (lv_room (Nat.le_of_ble_eq_true rfl)) dX8_endAct_25 ⟨Nat.zero_le _, Nat.zero_le _⟩) hS (fun r_25 locs p_25 hS => ?_)
    have hte := (hG.r (show i < nT σ by omega)).2.1
    refine fs_vi (y := (nI (rk σ i 0))) (p_25.trans ((((Good_sc hG hI1).r (by omega)).1 0 (by omega)).trans (congrArg nI (rk_sc hG hI1 i 0)))) ?_
    refine lv_iadd hx hb dX8_endAct_28 ?_
    refine fs_vi (y := nI (9 + rk σ i 0)) (nI_add _ _) ?_
    refine lv_dup2_11 hx hb dX8_endAct_29 rfl rfl ?_
    refine fs_iald E hP (k := 240) m_10r0 (by omega) (vp_in_nI (by omega) (by omega)) dX8_endAct_30 ?_
    refine fs_vi (y := (F1 0) (9 + rk σ i 0)) (congrArg (F1 0) (nI_clamp (by omega))) ?_
    refine fs_vi (y := (sSc σ i (9 + rk σ i 0))) (hTl _ (by omega)) ?_
    refine lv_aload_n hx hb dX8_endAct_31 rfl (lv_at hl 0 rfl) ?_
    refine lv_iload_n hx hb dX8_endAct_32 rfl (lv_at hl 1 rfl) ?_
    refine fs_i (va_runV (As := [.int (nI i)]) (rest := [.int (sSc σ i (9 + rk σ i 0)), .int (nI (9 + rk σ i 0)), .ref (fa g 240)]) E.1 (c_X8_isTrue l g N ct_9 z1 F1 (sSc σ i) (by omega) (Good_sc hG hI1) hM1 hTl i (by omega)) (lk_RX8_156 E.1.2.2.2.2 ⟨Nat.le_of_ble_eq_true rfl, Nat.le_of_ble_eq_true rfl⟩) (fpreV E hP hS fc8 m_10o (by omega)) rfl rfl hl.1 rfl (lv_room (Nat.le_of_ble_eq_true rfl)) dX8_endAct_33 ⟨Nat.zero_le _, Nat.zero_le _⟩) hS (fun r_33 ct_50 H locs p_33 hP hS => ?_)
    obtain ⟨ht30, fw30, ew30, -⟩ := p_33
    have M_51 := MA.f5 hM1 ew30
    have m_53o : ct_50 239 = .inr (8, [.ref (fa g 240), .ref (fa g 241), .int (z1 0), .ref (fa g 242), .ref (fa g 243), .ref (fa g 244), .int (z1 1), .ref (fa g 245), .int (z1 2), .ref (fa g 246), .ref (fa g 247), .ref (fa g 248), .int (z1 3), .int (z1 4), .int (z1 5), .int (z1 6), .int (z1 7), .int (z1 8), .int (z1 9)]) := (M_51).1
    have m_53r0 : ct_50 240 = .inl (fcI g, 121, .inl (F1 0)) := (M_51).2.1
    have m_53r1 : ct_50 241 = .inl (fcI g, 726, .inl (F1 1)) := (M_51).2.2.1
    have m_53r2 : ct_50 242 = .inl (fcI g, 242, .inl (F1 2)) := (M_51).2.2.2.1
    have m_53r3 : ct_50 243 = .inl (fcI g, 2, .inl (F1 3)) := (M_51).2.2.2.2.1
    have m_53r4 : ct_50 244 = .inl (fcI g, 60, .inl (F1 4)) := (M_51).2.2.2.2.2.1
    have m_53r5 : ct_50 245 = .inl (fcI g, 6, .inl fw30) := (M_51).2.2.2.2.2.2.1
    have m_53r6 : ct_50 246 = .inl (fcI g, 36, .inl (F1 6)) := (M_51).2.2.2.2.2.2.2.1
    have m_53r7 : ct_50 247 = .inl (fcI g, 20, .inl (F1 7)) := (M_51).2.2.2.2.2.2.2.2.1
    have m_53r8 : ct_50 248 = .inl (fcI g, 20, .inl (F1 8)) := (M_51).2.2.2.2.2.2.2.2.2
    have T_52 : SR (sSc σ i) (uF F1 5 fw30) := fun i9 hi => hTl i9 hi
    refine lv_if_eq (tgt := 43) hx hb dX8_endAct_36 (by decide) (fun c_36 => ?_) (fun c_36 => ?_)
    · have c_36 := (fb_0 ht30).mp c_36
      refine lv_iconst (v := (-1)) hx hb dX8_endAct_43 (by decide) ?_
      refine lv_iadd hx hb dX8_endAct_44 ?_
      refine fs_iast E hP hS (k := 240) m_53r0 (by omega) (vp_in_nI (by omega) (by omega)) dX8_endAct_45 (fun ct_54 H locs q_55 hP hS => ?_)
      rw [nI_clamp (by omega)] at q_55
      have h_56 : ct_54 239 = .inr (8, [.ref (fa g 240), .ref (fa g 241), .int (z1 0), .ref (fa g 242), .ref (fa g 243), .ref (fa g 244), .int (z1 1), .ref (fa g 245), .int (z1 2), .ref (fa g 246), .ref (fa g 247), .ref (fa g 248), .int (z1 3), .int (z1 4), .int (z1 5), .int (z1 6), .int (z1 7), .int (z1 8), .int (z1 9)]) := by rw [q_55]; exact (fu_ne (by omega)).trans m_53o
      have h_57 : ct_54 240 = .inl (fcI g, 121, .inl (upd (F1 0) (9 + rk σ i 0) ((sSc σ i (9 + rk σ i 0)) + (-1)))) := by rw [q_55]; exact fu_eq _ _ _
      have h_58 : ct_54 241 = .inl (fcI g, 726, .inl (F1 1)) := by rw [q_55]; exact (fu_ne (by omega)).trans m_53r1
      have h_59 : ct_54 242 = .inl (fcI g, 242, .inl (F1 2)) := by rw [q_55]; exact (fu_ne (by omega)).trans m_53r2
      have h_60 : ct_54 243 = .inl (fcI g, 2, .inl (F1 3)) := by rw [q_55]; exact (fu_ne (by omega)).trans m_53r3
      have h_61 : ct_54 244 = .inl (fcI g, 60, .inl (F1 4)) := by rw [q_55]; exact (fu_ne (by omega)).trans m_53r4
      have h_62 : ct_54 245 = .inl (fcI g, 6, .inl fw30) := by rw [q_55]; exact (fu_ne (by omega)).trans m_53r5
      have h_63 : ct_54 246 = .inl (fcI g, 36, .inl (F1 6)) := by rw [q_55]; exact (fu_ne (by omega)).trans m_53r6
      have h_64 : ct_54 247 = .inl (fcI g, 20, .inl (F1 7)) := by rw [q_55]; exact (fu_ne (by omega)).trans m_53r7
      have h_65 : ct_54 248 = .inl (fcI g, 20, .inl (F1 8)) := by rw [q_55]; exact (fu_ne (by omega)).trans m_53r8
      refine lv_iinc (v := (nI (i + 1))) (lv' := [(1, .int (nI (i + 1))), (0, .ref (fa g 239))]) hx hb dX8_endAct_46 hl (k := 1) rfl (nI_1 _) (by decide) rfl (fun ls hl => ?_)
      refine lv_goto (tgt := 6) hx hb dX8_endAct_49 (by decide) ?_
      have MA9 : MA g ct_54 (mkz (z1 0) (z1 1) (z1 2) (z1 3) (z1 4) (z1 5) (z1 6) (z1 7) (z1 8) (z1 9)) (mkF (upd (F1 0) (9 + rk σ i 0) ((sSc σ i (9 + rk σ i 0)) + (-1))) (F1 1) (F1 2) (F1 3) (F1 4) fw30 (F1 6) (F1 7) (F1 8)) := ⟨h_56, h_57, h_58, h_59, h_60, h_61, h_62, h_63, h_64, h_65⟩
      have hs9 : ∀ j, j < 121 → upd (F1 0) (9 + rk σ i 0) (sSc σ i (9 + rk σ i 0) + (-1)) j = sSc σ (i + 1) j := fun j hj => by
        show _ = upd (sSc σ i) (9 + rk σ i 0) (sSc σ i (9 + rk σ i 0) + (if hdr σ (lkf σ) i = true then nI 1 else -1)) j
        rw [if_neg (by rw [← hdr_sc hG hI1]; exact c_36)]
        exact upd_cg (hTl j hj)
      exact ih (i + 1) _ _ ls _ (by (try dsimp only); omega) ⟨lv_sub hl [1, 0] rfl, ⟨_, _, MA9, ⟨by omega, hI.2.1, hs9⟩, (show fSame 239 249 _ _ from fSame.tr hsm (fSame.ap (fSame.ap fSame.rf ew30 (by omega) (by omega)) q_55 (by omega) (by omega)))⟩⟩ hP hS
    · have c_36 := (fb_1 ht30).mp c_36
      refine lv_iconst (v := (nI 1)) hx hb dX8_endAct_39 (by decide) ?_
      refine lv_goto (tgt := 44) hx hb dX8_endAct_40 (by decide) ?_
      refine lv_iadd hx hb dX8_endAct_44 ?_
      refine fs_iast E hP hS (k := 240) m_53r0 (by omega) (vp_in_nI (by omega) (by omega)) dX8_endAct_45 (fun ct_66 H locs q_67 hP hS => ?_)
      rw [nI_clamp (by omega)] at q_67
      have h_68 : ct_66 239 = .inr (8, [.ref (fa g 240), .ref (fa g 241), .int (z1 0), .ref (fa g 242), .ref (fa g 243), .ref (fa g 244), .int (z1 1), .ref (fa g 245), .int (z1 2), .ref (fa g 246), .ref (fa g 247), .ref (fa g 248), .int (z1 3), .int (z1 4), .int (z1 5), .int (z1 6), .int (z1 7), .int (z1 8), .int (z1 9)]) := by rw [q_67]; exact (fu_ne (by omega)).trans m_53o
      have h_69 : ct_66 240 = .inl (fcI g, 121, .inl (upd (F1 0) (9 + rk σ i 0) ((sSc σ i (9 + rk σ i 0)) + (nI 1)))) := by rw [q_67]; exact fu_eq _ _ _
      have h_70 : ct_66 241 = .inl (fcI g, 726, .inl (F1 1)) := by rw [q_67]; exact (fu_ne (by omega)).trans m_53r1
      have h_71 : ct_66 242 = .inl (fcI g, 242, .inl (F1 2)) := by rw [q_67]; exact (fu_ne (by omega)).trans m_53r2
      have h_72 : ct_66 243 = .inl (fcI g, 2, .inl (F1 3)) := by rw [q_67]; exact (fu_ne (by omega)).trans m_53r3
      have h_73 : ct_66 244 = .inl (fcI g, 60, .inl (F1 4)) := by rw [q_67]; exact (fu_ne (by omega)).trans m_53r4
      have h_74 : ct_66 245 = .inl (fcI g, 6, .inl fw30) := by rw [q_67]; exact (fu_ne (by omega)).trans m_53r5
      have h_75 : ct_66 246 = .inl (fcI g, 36, .inl (F1 6)) := by rw [q_67]; exact (fu_ne (by omega)).trans m_53r6
      have h_76 : ct_66 247 = .inl (fcI g, 20, .inl (F1 7)) := by rw [q_67]; exact (fu_ne (by omega)).trans m_53r7
      have h_77 : ct_66 248 = .inl (fcI g, 20, .inl (F1 8)) := by rw [q_67]; exact (fu_ne (by omega)).trans m_53r8
      refine lv_iinc (v := (nI (i + 1))) (lv' := [(1, .int (nI (i + 1))), (0, .ref (fa g 239))]) hx hb dX8_endAct_46 hl (k := 1) rfl (nI_1 _) (by decide) rfl (fun ls hl => ?_)
      refine lv_goto (tgt := 6) hx hb dX8_endAct_49 (by decide) ?_
      have MA9 : MA g ct_66 (mkz (z1 0) (z1 1) (z1 2) (z1 3) (z1 4) (z1 5) (z1 6) (z1 7) (z1 8) (z1 9)) (mkF (upd (F1 0) (9 + rk σ i 0) ((sSc σ i (9 + rk σ i 0)) + (nI 1))) (F1 1) (F1 2) (F1 3) (F1 4) fw30 (F1 6) (F1 7) (F1 8)) := ⟨h_68, h_69, h_70, h_71, h_72, h_73, h_74, h_75, h_76, h_77⟩
      have hs9 : ∀ j, j < 121 → upd (F1 0) (9 + rk σ i 0) (sSc σ i (9 + rk σ i 0) + nI 1) j = sSc σ (i + 1) j := fun j hj => by
        show _ = upd (sSc σ i) (9 + rk σ i 0) (sSc σ i (9 + rk σ i 0) + (if hdr σ (lkf σ) i = true then nI 1 else -1)) j
        rw [if_pos (by rw [← hdr_sc hG hI1]; exact c_36)]
        exact upd_cg (hTl j hj)
      exact ih (i + 1) _ _ ls _ (by (try dsimp only); omega) ⟨lv_sub hl [1, 0] rfl, ⟨_, _, MA9, ⟨by omega, hI.2.1, hs9⟩, (show fSame 239 249 _ _ from fSame.tr hsm (fSame.ap (fSame.ap fSame.rf ew30 (by omega) (by omega)) q_67 (by omega) (by omega)))⟩⟩ hP hS
