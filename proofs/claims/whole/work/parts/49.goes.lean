theorem ok_of {σ : Nat → Int32} {q : Nat} (h : ∀ r, r < nT σ → bad σ (wd (nB σ) q) r = false) : okq σ q = true := okq_t.mpr h
theorem on_two {σ : Nat → Int32} {q r r2 : Nat} (h1 : r < nT σ) (h2 : r2 < nT σ) (hne : r ≠ r2) (b1 : bad σ (wd (nB σ) q) r = true) (b2 : bad σ (wd (nB σ) q) r2 = true) : ∀ x, x < nT σ → onq σ x q = false := by
  intro x hx
  refine Bool.eq_false_iff.mpr (fun h => ?_)
  obtain ⟨-, -, a⟩ := onq_t.mp h
  by_cases y : x = r
  · have := a r2 h2 (by omega); rw [b2] at this; cases this
  · have := a r h1 (by omega); rw [b1] at this; cases this
theorem on_not {σ : Nat → Int32} {q r : Nat} (h1 : r < nT σ) (b1 : bad σ (wd (nB σ) q) r = true) : ∀ x, x < nT σ → x ≠ r → onq σ x q = false := by
  intro x hx hne
  refine Bool.eq_false_iff.mpr (fun h => ?_)
  obtain ⟨-, -, a⟩ := onq_t.mp h
  have := a r h1 (Ne.symm hne); rw [b1] at this; cases this
set_option maxRecDepth 100000 in
set_option maxHeartbeats 4000000 in
theorem c_X8_goThrough (l : Launch) (g : fG) (N : Nat) (ct : Nat → va_E) (z : Nat → Int32) (F : Nat → Nat → Int32) (σ : Nat → Int32) (hN : 249 ≤ N) (hG : Good σ) (hM : MA g ct z F) (hT : SR σ F) : Met l yX8_goThrough (wsU yX8_goThrough cX8_goThrough 4 none) rX8_goThrough (fPre g N ct [.ref (fa g 239)]) (fQv g N (fun ct1 => ∃ (z1 : Nat → Int32) (F1 : Nat → Nat → Int32), MA g ct1 z1 F1 ∧ KK z F z1 F1 ∧ CNT σ (mM σ) z1 F1 ∧ fSame 239 249 ct ct1)) 0 0 (fB g) := by
  refine fs_start (own := RX8) (lv0 := [(0, .ref (fa g 239))]) (by decide) rfl (Nat.le_of_ble_eq_true rfl) rfl ?_
  intro p e s m args below meth c ls E hr hlk hnm hP hl hS
  have hx := E.1.1
  have hb := E.1.2.1
  have m_1o : ct 239 = .inr (8, [.ref (fa g 240), .ref (fa g 241), .int (z 0), .ref (fa g 242), .ref (fa g 243), .ref (fa g 244), .int (z 1), .ref (fa g 245), .int (z 2), .ref (fa g 246), .ref (fa g 247), .ref (fa g 248), .int (z 3), .int (z 4), .int (z 5), .int (z 6), .int (z 7), .int (z 8), .int (z 9)]) := (hM).1
  have m_1r0 : ct 240 = .inl (fcI g, 121, .inl (F 0)) := (hM).2.1
  have m_1r1 : ct 241 = .inl (fcI g, 726, .inl (F 1)) := (hM).2.2.1
  have m_1r2 : ct 242 = .inl (fcI g, 242, .inl (F 2)) := (hM).2.2.2.1
  have m_1r3 : ct 243 = .inl (fcI g, 2, .inl (F 3)) := (hM).2.2.2.2.1
  have m_1r4 : ct 244 = .inl (fcI g, 60, .inl (F 4)) := (hM).2.2.2.2.2.1
  have m_1r5 : ct 245 = .inl (fcI g, 6, .inl (F 5)) := (hM).2.2.2.2.2.2.1
  have m_1r6 : ct 246 = .inl (fcI g, 36, .inl (F 6)) := (hM).2.2.2.2.2.2.2.1
  have m_1r7 : ct 247 = .inl (fcI g, 20, .inl (F 7)) := (hM).2.2.2.2.2.2.2.2.1
  have m_1r8 : ct 248 = .inl (fcI g, 20, .inl (F 8)) := (hM).2.2.2.2.2.2.2.2.2
  have hn3 := hG.n3
  have hn6 := hG.n6
  have hk20 := hG.k
  have hM15 := hG.M
  refine lv_aload_n hx hb dX8_goThrough_0 rfl (lv_at hl 0 rfl) ?_
  refine fs_v (va_runV (As := []) (rest := []) E.1 (c_X8_clear l g N ct z F σ (by omega) hG hM hT) (lk_RX8_86 E.1.2.2.2.2 ⟨Nat.le_of_ble_eq_true rfl, Nat.le_of_ble_eq_true rfl⟩) (fpreV E hP hS fc8 m_1o (by omega)) rfl rfl hl.1 rfl (lv_room (Nat.le_of_ble_eq_true rfl)) dX8_goThrough_1 ⟨Nat.zero_le _, Nat.zero_le _⟩) hS (fun ct_2 H locs p_1 hP hS => ?_)
  obtain ⟨z_3, F_4, M_5, K_6, C_7, S_8⟩ := p_1
  have T_9 := KK.sr K_6 hT
  have m_10o : ct_2 239 = .inr (8, [.ref (fa g 240), .ref (fa g 241), .int (z_3 0), .ref (fa g 242), .ref (fa g 243), .ref (fa g 244), .int (z_3 1), .ref (fa g 245), .int (z_3 2), .ref (fa g 246), .ref (fa g 247), .ref (fa g 248), .int (z_3 3), .int (z_3 4), .int (z_3 5), .int (z_3 6), .int (z_3 7), .int (z_3 8), .int (z_3 9)]) := (M_5).1
  have m_10r0 : ct_2 240 = .inl (fcI g, 121, .inl (F_4 0)) := (M_5).2.1
  have m_10r1 : ct_2 241 = .inl (fcI g, 726, .inl (F_4 1)) := (M_5).2.2.1
  have m_10r2 : ct_2 242 = .inl (fcI g, 242, .inl (F_4 2)) := (M_5).2.2.2.1
  have m_10r3 : ct_2 243 = .inl (fcI g, 2, .inl (F_4 3)) := (M_5).2.2.2.2.1
  have m_10r4 : ct_2 244 = .inl (fcI g, 60, .inl (F_4 4)) := (M_5).2.2.2.2.2.1
  have m_10r5 : ct_2 245 = .inl (fcI g, 6, .inl (F_4 5)) := (M_5).2.2.2.2.2.2.1
  have m_10r6 : ct_2 246 = .inl (fcI g, 36, .inl (F_4 6)) := (M_5).2.2.2.2.2.2.2.1
  have m_10r7 : ct_2 247 = .inl (fcI g, 20, .inl (F_4 7)) := (M_5).2.2.2.2.2.2.2.2.1
  have m_10r8 : ct_2 248 = .inl (fcI g, 20, .inl (F_4 8)) := (M_5).2.2.2.2.2.2.2.2.2
  refine lv_aload_n hx hb dX8_goThrough_4 rfl (lv_at hl 0 rfl) ?_
  refine fs_pi (va_runV (As := []) (rest := []) E.1 (c_X8_worldsInAll l g N ct_2 z_3 F_4 σ (by omega) hG M_5 T_9) (lk_RX8_89 E.1.2.2.2.2 ⟨Nat.le_of_ble_eq_true rfl, Nat.le_of_ble_eq_true rfl⟩) (fpreV E hP hS fc8 m_10o (by omega)) rfl rfl hl.1 rfl (lv_room (Nat.le_of_ble_eq_true rfl)) dX8_goThrough_5 ⟨Nat.zero_le _, Nat.zero_le _⟩) hS (fun r_5 locs p_5 hS => ?_)
  refine fs_vi (y := (nI (mM σ))) p_5 ?_
  refine lv_istore_n (lv' := [(1, .int (nI (mM σ))), (0, .ref (fa g 239))]) hx hb dX8_goThrough_8 rfl hl (by decide) rfl (fun ls hl => ?_)
  refine lv_iconst (v := (nI 0)) hx hb dX8_goThrough_9 (by decide) ?_
  refine lv_istore_n (lv' := [(2, .int (nI 0)), (1, .int (nI (mM σ))), (0, .ref (fa g 239))]) hx hb dX8_goThrough_10 rfl hl (by decide) rfl (fun ls hl => ?_)
  have MA_11 : MA g ct_2 (mkz (z_3 0) (z_3 1) (z_3 2) (z_3 3) (z_3 4) (z_3 5) (z_3 6) (z_3 7) (z_3 8) (z_3 9)) (mkF (F_4 0) (F_4 1) (F_4 2) (F_4 3) (F_4 4) (F_4 5) (F_4 6) (F_4 7) (F_4 8)) := ⟨m_10o, m_10r0, m_10r1, m_10r2, m_10r3, m_10r4, m_10r5, m_10r6, m_10r7, m_10r8⟩
  refine fs_ind (g := g) (N := N) (St := Nat) (fun (q : Nat) (ct_12 : Nat → va_E) (ls : Array Slot) => lv_has ls 4 [(0, .ref (fa g 239)), (1, .int (nI (mM σ))), (2, .int (nI q))] ∧ ∃ (z1 : Nat → Int32) (F1 : Nat → Nat → Int32), MA g ct_12 z1 F1 ∧ (q ≤ mM σ ∧ KK z F z1 F1 ∧ CNT σ q z1 F1) ∧ fSame 239 249 ct ct_12) (fun q => mM σ - q) ?_ 0 _ _ ls _ ⟨lv_sub hl [2, 1, 0] rfl, ⟨(mkz (z_3 0) (z_3 1) (z_3 2) (z_3 3) (z_3 4) (z_3 5) (z_3 6) (z_3 7) (z_3 8) (z_3 9)), (mkF (F_4 0) (F_4 1) (F_4 2) (F_4 3) (F_4 4) (F_4 5) (F_4 6) (F_4 7) (F_4 8)), MA_11, ⟨Nat.zero_le _, K_6, C_7⟩, (show fSame 239 249 _ _ from (fSame.tr2 fSame.rf S_8 (by omega) (by omega)))⟩⟩ hP hS
  clear hl hP hS
  intro st ct_12 H ls locs hI hP hS ih
  obtain ⟨q, rfl⟩ : ∃ z, z = st := ⟨_, rfl⟩
  obtain ⟨hl, z1, F1, hM1, hI, hsm⟩ := hI
  have m_13o : ct_12 239 = .inr (8, [.ref (fa g 240), .ref (fa g 241), .int (z1 0), .ref (fa g 242), .ref (fa g 243), .ref (fa g 244), .int (z1 1), .ref (fa g 245), .int (z1 2), .ref (fa g 246), .ref (fa g 247), .ref (fa g 248), .int (z1 3), .int (z1 4), .int (z1 5), .int (z1 6), .int (z1 7), .int (z1 8), .int (z1 9)]) := (hM1).1
  have m_13r0 : ct_12 240 = .inl (fcI g, 121, .inl (F1 0)) := (hM1).2.1
  have m_13r1 : ct_12 241 = .inl (fcI g, 726, .inl (F1 1)) := (hM1).2.2.1
  have m_13r2 : ct_12 242 = .inl (fcI g, 242, .inl (F1 2)) := (hM1).2.2.2.1
  have m_13r3 : ct_12 243 = .inl (fcI g, 2, .inl (F1 3)) := (hM1).2.2.2.2.1
  have m_13r4 : ct_12 244 = .inl (fcI g, 60, .inl (F1 4)) := (hM1).2.2.2.2.2.1
  have m_13r5 : ct_12 245 = .inl (fcI g, 6, .inl (F1 5)) := (hM1).2.2.2.2.2.2.1
  have m_13r6 : ct_12 246 = .inl (fcI g, 36, .inl (F1 6)) := (hM1).2.2.2.2.2.2.2.1
  have m_13r7 : ct_12 247 = .inl (fcI g, 20, .inl (F1 7)) := (hM1).2.2.2.2.2.2.2.2.1
  have m_13r8 : ct_12 248 = .inl (fcI g, 20, .inl (F1 8)) := (hM1).2.2.2.2.2.2.2.2.2
  have hI1 := hI.1
  have hTl := KK.sr hI.2.1 hT
  refine lv_iload_n hx hb dX8_goThrough_11 rfl (lv_at hl 2 rfl) ?_
  refine lv_iload_n hx hb dX8_goThrough_12 rfl (lv_at hl 1 rfl) ?_
  refine lv_icmp_ge (tgt := 61) hx hb dX8_goThrough_13 (by decide) (fun c_13 => ?_) (fun c_13 => ?_)
  · rw [nI_leI (by omega) (by omega)] at c_13
    have hqm : q = mM σ := by omega
    have MA8 : MA g ct_12 (mkz (z1 0) (z1 1) (z1 2) (z1 3) (z1 4) (z1 5) (z1 6) (z1 7) (z1 8) (z1 9)) (mkF (F1 0) (F1 1) (F1 2) (F1 3) (F1 4) (F1 5) (F1 6) (F1 7) (F1 8)) := ⟨m_13o, m_13r0, m_13r1, m_13r2, m_13r3, m_13r4, m_13r5, m_13r6, m_13r7, m_13r8⟩
    refine fs_vret E hr hlk hP hS dX8_goThrough_61 ?_
    exact ⟨(mkz (z1 0) (z1 1) (z1 2) (z1 3) (z1 4) (z1 5) (z1 6) (z1 7) (z1 8) (z1 9)), (mkF (F1 0) (F1 1) (F1 2) (F1 3) (F1 4) (F1 5) (F1 6) (F1 7) (F1 8)), MA8, hI.2.1, (by rw [← hqm]; exact hI.2.2), (show fSame 239 249 _ _ from fSame.tr hsm fSame.rf)⟩
  · rw [nI_leI (by omega) (by omega)] at c_13
    refine lv_aload_n hx hb dX8_goThrough_16 rfl (lv_at hl 0 rfl) ?_
    refine lv_iload_n hx hb dX8_goThrough_17 rfl (lv_at hl 2 rfl) ?_
    refine fs_v (va_runV (As := [.int (nI q)]) (rest := []) E.1 (c_X8_takeWorld l g N ct_12 z1 F1 σ (by omega) hG hM1 hTl q (by omega)) (lk_RX8_93 E.1.2.2.2.2 ⟨Nat.le_of_ble_eq_true rfl, Nat.le_of_ble_eq_true rfl⟩) (fpreV E hP hS fc8 m_13o (by omega)) rfl rfl hl.1 rfl (lv_room (Nat.le_of_ble_eq_true rfl)) dX8_goThrough_18 ⟨Nat.zero_le _, Nat.zero_le _⟩) hS (fun ct_14 H locs p_18 hP hS => ?_)
    obtain ⟨fw_15, ew_16, hw_17⟩ := p_18
    have M_19 := MA.f5 hM1 ew_16
    have m_21o : ct_14 239 = .inr (8, [.ref (fa g 240), .ref (fa g 241), .int (z1 0), .ref (fa g 242), .ref (fa g 243), .ref (fa g 244), .int (z1 1), .ref (fa g 245), .int (z1 2), .ref (fa g 246), .ref (fa g 247), .ref (fa g 248), .int (z1 3), .int (z1 4), .int (z1 5), .int (z1 6), .int (z1 7), .int (z1 8), .int (z1 9)]) := (M_19).1
    have m_21r0 : ct_14 240 = .inl (fcI g, 121, .inl (F1 0)) := (M_19).2.1
    have m_21r1 : ct_14 241 = .inl (fcI g, 726, .inl (F1 1)) := (M_19).2.2.1
    have m_21r2 : ct_14 242 = .inl (fcI g, 242, .inl (F1 2)) := (M_19).2.2.2.1
    have m_21r3 : ct_14 243 = .inl (fcI g, 2, .inl (F1 3)) := (M_19).2.2.2.2.1
    have m_21r4 : ct_14 244 = .inl (fcI g, 60, .inl (F1 4)) := (M_19).2.2.2.2.2.1
    have m_21r5 : ct_14 245 = .inl (fcI g, 6, .inl fw_15) := (M_19).2.2.2.2.2.2.1
    have m_21r6 : ct_14 246 = .inl (fcI g, 36, .inl (F1 6)) := (M_19).2.2.2.2.2.2.2.1
    have m_21r7 : ct_14 247 = .inl (fcI g, 20, .inl (F1 7)) := (M_19).2.2.2.2.2.2.2.2.1
    have m_21r8 : ct_14 248 = .inl (fcI g, 20, .inl (F1 8)) := (M_19).2.2.2.2.2.2.2.2.2
    have T_20 : SR σ (uF F1 5 fw_15) := fun i hi => hTl i hi
    have hW_18 : WR σ (wd (nB σ) q) (uF F1 5 fw_15) := fun p hp => hw_17 p hp
    refine lv_aload_n hx hb dX8_goThrough_21 rfl (lv_at hl 0 rfl) ?_
    refine fs_pi (va_runV (As := []) (rest := []) E.1 (c_X8_wrongOne l g N ct_14 z1 (uF F1 5 fw_15) σ (by omega) hG M_19 T_20 (wd (nB σ) q) (wd_ok hn3 _) hW_18) (lk_RX8_96 E.1.2.2.2.2 ⟨Nat.le_of_ble_eq_true rfl, Nat.le_of_ble_eq_true rfl⟩) (fpreV E hP hS fc8 m_21o (by omega)) rfl rfl hl.1 rfl (lv_room (Nat.le_of_ble_eq_true rfl)) dX8_goThrough_22 ⟨Nat.zero_le _, Nat.zero_le _⟩) hS (fun r_22 locs p_22 hS => ?_)
    have hwr := wrI_is σ (wd (nB σ) q) (nT σ) hk20
    refine fs_vi (y := (wrI σ (wd (nB σ) q) (nT σ))) p_22 ?_
    rcases hwr with ⟨hr1, hr2⟩ | ⟨r9, hr9, hr1, hr2, hr3⟩ | ⟨hr1, ra, rb, hra, hrb, hrab, hba, hbb⟩
    · refine fs_vi (y := (-6)) hr1 ?_
      refine lv_istore_n (lv' := [(3, .int (-6)), (0, .ref (fa g 239)), (1, .int (nI (mM σ))), (2, .int (nI q))]) hx hb dX8_goThrough_25 rfl hl (by decide) rfl (fun ls hl => ?_)
      refine lv_iload_n hx hb dX8_goThrough_26 rfl (lv_at hl 0 rfl) ?_
      refine lv_bipush (v := (-6)) hx hb dX8_goThrough_27 (by decide) ?_
      refine lv_icmp_ne (tgt := 39) hx hb dX8_goThrough_29 (by decide) (fun c_29 => ?_) (fun c_29 => ?_)
      · exact absurd c_29 (by decide)
      have hok9 := ok_of hr2
      have hC9 : CNT σ q z1 (uF F1 5 fw_15) := hI.2.2
      refine lv_aload_n hx hb dX8_goThrough_32 rfl (lv_at hl 1 rfl) ?_
      refine fs_v (va_runV (As := []) (rest := []) E.1 (c_X8_takesIn l g N ct_14 z1 (uF F1 5 fw_15) σ (by omega) hG M_19 T_20 q (by omega) hok9 hC9 hW_18) (lk_RX8_99 E.1.2.2.2.2 ⟨Nat.le_of_ble_eq_true rfl, Nat.le_of_ble_eq_true rfl⟩) (fpreV E hP hS fc8 m_21o (by omega)) rfl rfl hl.1 rfl (lv_room (Nat.le_of_ble_eq_true rfl)) dX8_goThrough_33 ⟨Nat.zero_le _, Nat.zero_le _⟩) hS (fun ct_22 H locs p_33 hP hS => ?_)
      obtain ⟨z_23, F_24, M_25, K_26, C_27, S_28⟩ := p_33
      have T_29 := KK.sr K_26 T_20
      have m_30o : ct_22 239 = .inr (8, [.ref (fa g 240), .ref (fa g 241), .int (z_23 0), .ref (fa g 242), .ref (fa g 243), .ref (fa g 244), .int (z_23 1), .ref (fa g 245), .int (z_23 2), .ref (fa g 246), .ref (fa g 247), .ref (fa g 248), .int (z_23 3), .int (z_23 4), .int (z_23 5), .int (z_23 6), .int (z_23 7), .int (z_23 8), .int (z_23 9)]) := (M_25).1
      have m_30r0 : ct_22 240 = .inl (fcI g, 121, .inl (F_24 0)) := (M_25).2.1
      have m_30r1 : ct_22 241 = .inl (fcI g, 726, .inl (F_24 1)) := (M_25).2.2.1
      have m_30r2 : ct_22 242 = .inl (fcI g, 242, .inl (F_24 2)) := (M_25).2.2.2.1
      have m_30r3 : ct_22 243 = .inl (fcI g, 2, .inl (F_24 3)) := (M_25).2.2.2.2.1
      have m_30r4 : ct_22 244 = .inl (fcI g, 60, .inl (F_24 4)) := (M_25).2.2.2.2.2.1
      have m_30r5 : ct_22 245 = .inl (fcI g, 6, .inl (F_24 5)) := (M_25).2.2.2.2.2.2.1
      have m_30r6 : ct_22 246 = .inl (fcI g, 36, .inl (F_24 6)) := (M_25).2.2.2.2.2.2.2.1
      have m_30r7 : ct_22 247 = .inl (fcI g, 20, .inl (F_24 7)) := (M_25).2.2.2.2.2.2.2.2.1
      have m_30r8 : ct_22 248 = .inl (fcI g, 20, .inl (F_24 8)) := (M_25).2.2.2.2.2.2.2.2.2
      refine lv_goto (tgt := 55) hx hb dX8_goThrough_36 (by decide) ?_
      refine lv_iinc (v := (nI (q + 1))) (lv' := [(2, .int (nI (q + 1))), (3, .int (-6)), (0, .ref (fa g 239)), (1, .int (nI (mM σ)))]) hx hb dX8_goThrough_55 hl (k := 3) rfl (nI_1 _) (by decide) rfl (fun ls hl => ?_)
      refine lv_goto (tgt := 11) hx hb dX8_goThrough_58 (by decide) ?_
      have MA9 : MA g ct_22 (mkz (z_23 0) (z_23 1) (z_23 2) (z_23 3) (z_23 4) (z_23 5) (z_23 6) (z_23 7) (z_23 8) (z_23 9)) (mkF (F_24 0) (F_24 1) (F_24 2) (F_24 3) (F_24 4) (F_24 5) (F_24 6) (F_24 7) (F_24 8)) := ⟨m_30o, m_30r0, m_30r1, m_30r2, m_30r3, m_30r4, m_30r5, m_30r6, m_30r7, m_30r8⟩
      exact ih (q + 1) _ _ ls _ (by (try dsimp only); omega) ⟨lv_sub hl [2, 3, 0] rfl, ⟨_, _, MA9, ⟨by omega, KK.tr hI.2.1 K_26, C_27⟩, (show fSame 239 249 _ _ from fSame.tr hsm (fSame.tr2 (fSame.ap fSame.rf ew_16 (by omega) (by omega)) S_28 (by omega) (by omega)))⟩⟩ hP hS
    · refine fs_vi (y := (nI r9)) hr1 ?_
      refine lv_istore_n (lv' := [(3, .int (nI r9)), (0, .ref (fa g 239)), (1, .int (nI (mM σ))), (2, .int (nI q))]) hx hb dX8_goThrough_25 rfl hl (by decide) rfl (fun ls hl => ?_)
      refine lv_iload_n hx hb dX8_goThrough_26 rfl (lv_at hl 0 rfl) ?_
      refine lv_bipush (v := (-6)) hx hb dX8_goThrough_27 (by decide) ?_
      refine lv_icmp_ne (tgt := 39) hx hb dX8_goThrough_29 (by decide) (fun c_29 => ?_) (fun c_29 => ?_)
      · refine lv_iload_n hx hb dX8_goThrough_39 rfl (lv_at hl 0 rfl) ?_
        refine lv_bipush (v := (nI 20)) hx hb dX8_goThrough_40 (by decide) ?_
        refine lv_icmp_ge (tgt := 55) hx hb dX8_goThrough_42 (by decide) (fun c_42 => ?_) (fun c_42 => ?_)
        · rw [nI_leI (by omega) (by omega)] at c_42
          exfalso; omega
        · rw [nI_leI (by omega) (by omega)] at c_42
          refine lv_aload_n hx hb dX8_goThrough_45 rfl (lv_at hl 1 rfl) ?_
          refine fs_get E hP (k := 239) (v := .ref (fa g 248)) 11 fc8 m_21o (by omega) (by decide) (wm wl_5 (i := 8) rfl) rfl dX8_goThrough_46 ?_
          refine lv_iload_n hx hb dX8_goThrough_49 rfl (lv_at hl 0 rfl) ?_
          refine lv_dup2_11 hx hb dX8_goThrough_50 rfl rfl ?_
          refine fs_iald E hP (k := 248) m_21r8 (by omega) (vp_in_nI (by omega) (by omega)) dX8_goThrough_51 ?_
          refine fs_vi (y := (F1 8) r9) (congrArg (F1 8) (nI_clamp (by omega))) ?_
          refine fs_vi (y := (nI (cN (onq σ r9) q))) (hI.2.2.2.2.2.1 r9 hr9) ?_
          refine lv_iconst (v := (nI 1)) hx hb dX8_goThrough_52 (by decide) ?_
          refine lv_iadd hx hb dX8_goThrough_53 ?_
          refine fs_vi (y := (nI (cN (onq σ r9) (q + 1)))) (by rw [cN_t (onq_t.mpr ⟨hr9, hr2, hr3⟩)]; exact nI_1 _) ?_
          refine fs_iast E hP hS (k := 248) m_21r8 (by omega) (vp_in_nI (by omega) (by omega)) dX8_goThrough_54 (fun ct_31 H locs q_32 hP hS => ?_)
          rw [nI_clamp (by omega)] at q_32
          have h_33 : ct_31 239 = .inr (8, [.ref (fa g 240), .ref (fa g 241), .int (z1 0), .ref (fa g 242), .ref (fa g 243), .ref (fa g 244), .int (z1 1), .ref (fa g 245), .int (z1 2), .ref (fa g 246), .ref (fa g 247), .ref (fa g 248), .int (z1 3), .int (z1 4), .int (z1 5), .int (z1 6), .int (z1 7), .int (z1 8), .int (z1 9)]) := by rw [q_32]; exact (fu_ne (by omega)).trans m_21o
          have h_34 : ct_31 240 = .inl (fcI g, 121, .inl (F1 0)) := by rw [q_32]; exact (fu_ne (by omega)).trans m_21r0
          have h_35 : ct_31 241 = .inl (fcI g, 726, .inl (F1 1)) := by rw [q_32]; exact (fu_ne (by omega)).trans m_21r1
          have h_36 : ct_31 242 = .inl (fcI g, 242, .inl (F1 2)) := by rw [q_32]; exact (fu_ne (by omega)).trans m_21r2
          have h_37 : ct_31 243 = .inl (fcI g, 2, .inl (F1 3)) := by rw [q_32]; exact (fu_ne (by omega)).trans m_21r3
          have h_38 : ct_31 244 = .inl (fcI g, 60, .inl (F1 4)) := by rw [q_32]; exact (fu_ne (by omega)).trans m_21r4
          have h_39 : ct_31 245 = .inl (fcI g, 6, .inl fw_15) := by rw [q_32]; exact (fu_ne (by omega)).trans m_21r5
          have h_40 : ct_31 246 = .inl (fcI g, 36, .inl (F1 6)) := by rw [q_32]; exact (fu_ne (by omega)).trans m_21r6
          have h_41 : ct_31 247 = .inl (fcI g, 20, .inl (F1 7)) := by rw [q_32]; exact (fu_ne (by omega)).trans m_21r7
          have h_42 : ct_31 248 = .inl (fcI g, 20, .inl (upd (F1 8) r9 (nI (cN (onq σ r9) (q + 1))))) := by rw [q_32]; exact fu_eq _ _ _
          refine lv_iinc (v := (nI (q + 1))) (lv' := [(2, .int (nI (q + 1))), (3, .int (nI r9)), (0, .ref (fa g 239)), (1, .int (nI (mM σ)))]) hx hb dX8_goThrough_55 hl (k := 3) rfl (nI_1 _) (by decide) rfl (fun ls hl => ?_)
          refine lv_goto (tgt := 11) hx hb dX8_goThrough_58 (by decide) ?_
          have MA9 : MA g ct_31 (mkz (z1 0) (z1 1) (z1 2) (z1 3) (z1 4) (z1 5) (z1 6) (z1 7) (z1 8) (z1 9)) (mkF (F1 0) (F1 1) (F1 2) (F1 3) (F1 4) fw_15 (F1 6) (F1 7) (upd (F1 8) r9 (nI (cN (onq σ r9) (q + 1))))) := ⟨h_33, h_34, h_35, h_36, h_37, h_38, h_39, h_40, h_41, h_42⟩
          exact ih (q + 1) _ _ ls _ (by (try dsimp only); omega) ⟨lv_sub hl [2, 3, 0] rfl, ⟨_, _, MA9, ⟨by omega, hI.2.1, CNT.one hI.2.2 (okq_f hr9 hr2) (onq_t.mpr ⟨hr9, hr2, hr3⟩) (on_not hr9 hr2) rfl rfl rfl⟩, (show fSame 239 249 _ _ from fSame.tr hsm (fSame.ap (fSame.ap fSame.rf ew_16 (by omega) (by omega)) q_32 (by omega) (by omega)))⟩⟩ hP hS
      · exact absurd c_29 (nI_ne6 (by omega))
    · refine fs_vi (y := (nI 20)) hr1 ?_
      refine lv_istore_n (lv' := [(3, .int (nI 20)), (0, .ref (fa g 239)), (1, .int (nI (mM σ))), (2, .int (nI q))]) hx hb dX8_goThrough_25 rfl hl (by decide) rfl (fun ls hl => ?_)
      refine lv_iload_n hx hb dX8_goThrough_26 rfl (lv_at hl 0 rfl) ?_
      refine lv_bipush (v := (-6)) hx hb dX8_goThrough_27 (by decide) ?_
      refine lv_icmp_ne (tgt := 39) hx hb dX8_goThrough_29 (by decide) (fun c_29 => ?_) (fun c_29 => ?_)
      rotate_left
      · exact absurd c_29 (by decide)
      refine lv_iload_n hx hb dX8_goThrough_39 rfl (lv_at hl 0 rfl) ?_
      refine lv_bipush (v := (nI 20)) hx hb dX8_goThrough_40 (by decide) ?_
      refine lv_icmp_ge (tgt := 55) hx hb dX8_goThrough_42 (by decide) (fun c_42 => ?_) (fun c_42 => ?_)
      rotate_left
      · exact absurd c_42 (by decide)
      refine lv_iinc (v := (nI (q + 1))) (lv' := [(2, .int (nI (q + 1))), (3, .int (nI 20)), (0, .ref (fa g 239)), (1, .int (nI (mM σ)))]) hx hb dX8_goThrough_55 hl (k := 3) rfl (nI_1 _) (by decide) rfl (fun ls hl => ?_)
      refine lv_goto (tgt := 11) hx hb dX8_goThrough_58 (by decide) ?_
      have MA9 : MA g ct_14 (mkz (z1 0) (z1 1) (z1 2) (z1 3) (z1 4) (z1 5) (z1 6) (z1 7) (z1 8) (z1 9)) (mkF (F1 0) (F1 1) (F1 2) (F1 3) (F1 4) fw_15 (F1 6) (F1 7) (F1 8)) := ⟨m_21o, m_21r0, m_21r1, m_21r2, m_21r3, m_21r4, m_21r5, m_21r6, m_21r7, m_21r8⟩
      exact ih (q + 1) _ _ ls _ (by (try dsimp only); omega) ⟨lv_sub hl [2, 3, 0] rfl, ⟨_, _, MA9, ⟨by omega, hI.2.1, CNT.skip hI.2.2 (okq_f hra hba) (on_two hra hrb hrab hba hbb)⟩, (show fSame 239 249 _ _ from fSame.tr hsm (fSame.ap fSame.rf ew_16 (by omega) (by omega)))⟩⟩ hP hS

set_option maxRecDepth 100000 in
set_option maxHeartbeats 4000000 in
theorem c_X8_worldsNow (l : Launch) (g : fG) (N : Nat) (ct : Nat → va_E) (z : Nat → Int32) (F : Nat → Nat → Int32) (σ : Nat → Int32) (hN : 249 ≤ N) (hG : Good σ) (hM : MA g ct z F) (hT : SR σ F) : Met l yX8_worldsNow (wsU yX8_worldsNow cX8_worldsNow 1 (some .int)) rX8_worldsNow (fPre g N ct [.ref (fa g 239)]) (fQi g N (fun r ct1 => r = nI (Wn σ) ∧ ∃ (z1 : Nat → Int32) (F1 : Nat → Nat → Int32), MA g ct1 z1 F1 ∧ KK z F z1 F1 ∧ CNT σ (mM σ) z1 F1 ∧ fSame 239 249 ct ct1)) 0 0 (fB g) := by
  refine fs_start (own := RX8) (lv0 := [(0, .ref (fa g 239))]) (by decide) rfl (Nat.le_of_ble_eq_true rfl) rfl ?_
  intro p e s m args below meth c ls E hr hlk hnm hP hl hS
  have hx := E.1.1
  have hb := E.1.2.1
  have m_1o : ct 239 = .inr (8, [.ref (fa g 240), .ref (fa g 241), .int (z 0), .ref (fa g 242), .ref (fa g 243), .ref (fa g 244), .int (z 1), .ref (fa g 245), .int (z 2), .ref (fa g 246), .ref (fa g 247), .ref (fa g 248), .int (z 3), .int (z 4), .int (z 5), .int (z 6), .int (z 7), .int (z 8), .int (z 9)]) := (hM).1
  have m_1r0 : ct 240 = .inl (fcI g, 121, .inl (F 0)) := (hM).2.1
  have m_1r1 : ct 241 = .inl (fcI g, 726, .inl (F 1)) := (hM).2.2.1
  have m_1r2 : ct 242 = .inl (fcI g, 242, .inl (F 2)) := (hM).2.2.2.1
  have m_1r3 : ct 243 = .inl (fcI g, 2, .inl (F 3)) := (hM).2.2.2.2.1
  have m_1r4 : ct 244 = .inl (fcI g, 60, .inl (F 4)) := (hM).2.2.2.2.2.1
  have m_1r5 : ct 245 = .inl (fcI g, 6, .inl (F 5)) := (hM).2.2.2.2.2.2.1
  have m_1r6 : ct 246 = .inl (fcI g, 36, .inl (F 6)) := (hM).2.2.2.2.2.2.2.1
  have m_1r7 : ct 247 = .inl (fcI g, 20, .inl (F 7)) := (hM).2.2.2.2.2.2.2.2.1
  have m_1r8 : ct 248 = .inl (fcI g, 20, .inl (F 8)) := (hM).2.2.2.2.2.2.2.2.2
  have hn3 := hG.n3
  have hn6 := hG.n6
  have hk20 := hG.k
  refine lv_aload_n hx hb dX8_worldsNow_0 rfl (lv_at hl 0 rfl) ?_
  refine fs_v (va_runV (As := []) (rest := []) E.1 (c_X8_goThrough l g N ct z F σ (by omega) hG hM hT) (lk_RX8_102 E.1.2.2.2.2 ⟨Nat.le_of_ble_eq_true rfl, Nat.le_of_ble_eq_true rfl⟩) (fpreV E hP hS fc8 m_1o (by omega)) rfl rfl hl.1 rfl (lv_room (Nat.le_of_ble_eq_true rfl)) dX8_worldsNow_1 ⟨Nat.zero_le _, Nat.zero_le _⟩) hS (fun ct_2 H locs p_1 hP hS => ?_)
  obtain ⟨z_3, F_4, M_5, K_6, C_7, S_8⟩ := p_1
  have T_9 := KK.sr K_6 hT
  have m_10o : ct_2 239 = .inr (8, [.ref (fa g 240), .ref (fa g 241), .int (z_3 0), .ref (fa g 242), .ref (fa g 243), .ref (fa g 244), .int (z_3 1), .ref (fa g 245), .int (z_3 2), .ref (fa g 246), .ref (fa g 247), .ref (fa g 248), .int (z_3 3), .int (z_3 4), .int (z_3 5), .int (z_3 6), .int (z_3 7), .int (z_3 8), .int (z_3 9)]) := (M_5).1
  have m_10r0 : ct_2 240 = .inl (fcI g, 121, .inl (F_4 0)) := (M_5).2.1
  have m_10r1 : ct_2 241 = .inl (fcI g, 726, .inl (F_4 1)) := (M_5).2.2.1
  have m_10r2 : ct_2 242 = .inl (fcI g, 242, .inl (F_4 2)) := (M_5).2.2.2.1
  have m_10r3 : ct_2 243 = .inl (fcI g, 2, .inl (F_4 3)) := (M_5).2.2.2.2.1
  have m_10r4 : ct_2 244 = .inl (fcI g, 60, .inl (F_4 4)) := (M_5).2.2.2.2.2.1
  have m_10r5 : ct_2 245 = .inl (fcI g, 6, .inl (F_4 5)) := (M_5).2.2.2.2.2.2.1
  have m_10r6 : ct_2 246 = .inl (fcI g, 36, .inl (F_4 6)) := (M_5).2.2.2.2.2.2.2.1
  have m_10r7 : ct_2 247 = .inl (fcI g, 20, .inl (F_4 7)) := (M_5).2.2.2.2.2.2.2.2.1
  have m_10r8 : ct_2 248 = .inl (fcI g, 20, .inl (F_4 8)) := (M_5).2.2.2.2.2.2.2.2.2
  refine lv_aload_n hx hb dX8_worldsNow_4 rfl (lv_at hl 0 rfl) ?_
  refine fs_get E hP (k := 239) (v := .int (z_3 2)) 8 fc8 m_10o (by omega) (by decide) (wm wl_21 (i := 7) rfl) rfl dX8_worldsNow_5 ?_
  refine fs_iret E hr hlk hP hS dX8_worldsNow_8 ?_
  exact ⟨C_7.1, z_3, F_4, M_5, K_6, C_7, (show fSame 239 249 _ _ from (fSame.tr2 fSame.rf S_8 (by omega) (by omega)))⟩

set_option maxRecDepth 100000 in
set_option maxHeartbeats 4000000 in
theorem c_X8_isTruthPossible (l : Launch) (g : fG) (N : Nat) (ct : Nat → va_E) (z : Nat → Int32) (F : Nat → Nat → Int32) (σ : Nat → Int32) (hN : 249 ≤ N) (hG : Good σ) (hM : MA g ct z F) (hT : SR σ F) : Met l yX8_isTruthPossible (wsU yX8_isTruthPossible cX8_isTruthPossible 1 (some .boolean)) rX8_isTruthPossible (fPre g N ct [.ref (fa g 239)]) (fQi g N (fun r ct1 => r = bI (∀ i, i < nT σ → bad σ (lkf σ) i = false) ∧ ∃ (z1 : Nat → Int32) (F1 : Nat → Nat → Int32), MA g ct1 z1 F1 ∧ KK z F z1 F1 ∧ fSame 239 249 ct ct1)) 0 0 (fB g) := by
  refine fs_start (own := RX8) (lv0 := [(0, .ref (fa g 239))]) (by decide) rfl (Nat.le_of_ble_eq_true rfl) rfl ?_
  intro p e s m args below meth c ls E hr hlk hnm hP hl hS
  have hx := E.1.1
  have hb := E.1.2.1
  have m_1o : ct 239 = .inr (8, [.ref (fa g 240), .ref (fa g 241), .int (z 0), .ref (fa g 242), .ref (fa g 243), .ref (fa g 244), .int (z 1), .ref (fa g 245), .int (z 2), .ref (fa g 246), .ref (fa g 247), .ref (fa g 248), .int (z 3), .int (z 4), .int (z 5), .int (z 6), .int (z 7), .int (z 8), .int (z 9)]) := (hM).1
  have m_1r0 : ct 240 = .inl (fcI g, 121, .inl (F 0)) := (hM).2.1
  have m_1r1 : ct 241 = .inl (fcI g, 726, .inl (F 1)) := (hM).2.2.1
  have m_1r2 : ct 242 = .inl (fcI g, 242, .inl (F 2)) := (hM).2.2.2.1
  have m_1r3 : ct 243 = .inl (fcI g, 2, .inl (F 3)) := (hM).2.2.2.2.1
  have m_1r4 : ct 244 = .inl (fcI g, 60, .inl (F 4)) := (hM).2.2.2.2.2.1
  have m_1r5 : ct 245 = .inl (fcI g, 6, .inl (F 5)) := (hM).2.2.2.2.2.2.1
  have m_1r6 : ct 246 = .inl (fcI g, 36, .inl (F 6)) := (hM).2.2.2.2.2.2.2.1
  have m_1r7 : ct 247 = .inl (fcI g, 20, .inl (F 7)) := (hM).2.2.2.2.2.2.2.2.1
  have m_1r8 : ct 248 = .inl (fcI g, 20, .inl (F 8)) := (hM).2.2.2.2.2.2.2.2.2
  have hn3 := hG.n3
  have hn6 := hG.n6
  have hk20 := hG.k
  refine lv_aload_n hx hb dX8_isTruthPossible_0 rfl (lv_at hl 0 rfl) ?_
  refine fs_v (va_runV (As := []) (rest := []) E.1 (c_X8_takeTruth l g N ct z F σ (by omega) hG hM hT) (lk_RX8_68 E.1.2.2.2.2 ⟨Nat.le_of_ble_eq_true rfl, Nat.le_of_ble_eq_true rfl⟩) (fpreV E hP hS fc8 m_1o (by omega)) rfl rfl hl.1 rfl (lv_room (Nat.le_of_ble_eq_true rfl)) dX8_isTruthPossible_1 ⟨Nat.zero_le _, Nat.zero_le _⟩) hS (fun ct_2 H locs p_1 hP hS => ?_)
  obtain ⟨fw_3, ew_4, hw_5⟩ := p_1
  have M_7 := MA.f5 hM ew_4
  have m_9o : ct_2 239 = .inr (8, [.ref (fa g 240), .ref (fa g 241), .int (z 0), .ref (fa g 242), .ref (fa g 243), .ref (fa g 244), .int (z 1), .ref (fa g 245), .int (z 2), .ref (fa g 246), .ref (fa g 247), .ref (fa g 248), .int (z 3), .int (z 4), .int (z 5), .int (z 6), .int (z 7), .int (z 8), .int (z 9)]) := (M_7).1
  have m_9r0 : ct_2 240 = .inl (fcI g, 121, .inl (F 0)) := (M_7).2.1
  have m_9r1 : ct_2 241 = .inl (fcI g, 726, .inl (F 1)) := (M_7).2.2.1
  have m_9r2 : ct_2 242 = .inl (fcI g, 242, .inl (F 2)) := (M_7).2.2.2.1
  have m_9r3 : ct_2 243 = .inl (fcI g, 2, .inl (F 3)) := (M_7).2.2.2.2.1
  have m_9r4 : ct_2 244 = .inl (fcI g, 60, .inl (F 4)) := (M_7).2.2.2.2.2.1
  have m_9r5 : ct_2 245 = .inl (fcI g, 6, .inl fw_3) := (M_7).2.2.2.2.2.2.1
  have m_9r6 : ct_2 246 = .inl (fcI g, 36, .inl (F 6)) := (M_7).2.2.2.2.2.2.2.1
  have m_9r7 : ct_2 247 = .inl (fcI g, 20, .inl (F 7)) := (M_7).2.2.2.2.2.2.2.2.1
  have m_9r8 : ct_2 248 = .inl (fcI g, 20, .inl (F 8)) := (M_7).2.2.2.2.2.2.2.2.2
  have T_8 : SR σ (uF F 5 fw_3) := fun i hi => hT i hi
  have hW_6 : WR σ (lkf σ) (uF F 5 fw_3) := fun p hp => hw_5 p hp
  refine lv_aload_n hx hb dX8_isTruthPossible_4 rfl (lv_at hl 0 rfl) ?_
  refine fs_pi (va_runV (As := []) (rest := []) E.1 (c_X8_wrongOne l g N ct_2 z (uF F 5 fw_3) σ (by omega) hG M_7 T_8 (lkf σ) hG.wok hW_6) (lk_RX8_96 E.1.2.2.2.2 ⟨Nat.le_of_ble_eq_true rfl, Nat.le_of_ble_eq_true rfl⟩) (fpreV E hP hS fc8 m_9o (by omega)) rfl rfl hl.1 rfl (lv_room (Nat.le_of_ble_eq_true rfl)) dX8_isTruthPossible_5 ⟨Nat.zero_le _, Nat.zero_le _⟩) hS (fun r_5 locs p_5 hS => ?_)
  have hwr := wrI_is σ (lkf σ) (nT σ) hk20
  refine fs_vi (y := (wrI σ (lkf σ) (nT σ))) p_5 ?_
  refine lv_bipush (v := (-6)) hx hb dX8_isTruthPossible_8 (by decide) ?_
  refine lv_icmp_ne (tgt := 17) hx hb dX8_isTruthPossible_10 (by decide) (fun c_10 => ?_) (fun c_10 => ?_)
  · refine lv_iconst (v := (nI 0)) hx hb dX8_isTruthPossible_17 (by decide) ?_
    have hv : nI 0 = bI (∀ i, i < nT σ → bad σ (lkf σ) i = false) := by
      rcases hwr with ⟨hr1, hr2⟩ | ⟨r9, hr9, hr1, hr2, hr3⟩ | ⟨hr1, ra, rb, hra, hrb, hrab, hba, hbb⟩
      · exact absurd hr1 c_10
      · exact bI_f (fun y => by rw [y r9 hr9] at hr2; cases hr2)
      · exact bI_f (fun y => by rw [y ra hra] at hba; cases hba)
    refine fs_zret E hr rfl hlk hP hS dX8_isTruthPossible_18 ?_
    exact ⟨hv, z, (uF F 5 fw_3), M_7, ⟨⟨rfl, rfl⟩, rfl, rfl, rfl, rfl, rfl⟩, (show fSame 239 249 _ _ from (fSame.ap fSame.rf ew_4 (by omega) (by omega)))⟩
  · refine lv_iconst (v := (nI 1)) hx hb dX8_isTruthPossible_13 (by decide) ?_
    refine lv_goto (tgt := 18) hx hb dX8_isTruthPossible_14 (by decide) ?_
    have hv : nI 1 = bI (∀ i, i < nT σ → bad σ (lkf σ) i = false) := by
      rcases hwr with ⟨hr1, hr2⟩ | ⟨r9, hr9, hr1, hr2, hr3⟩ | ⟨hr1, ra, rb, hra, hrb, hrab, hba, hbb⟩
      · exact bI_t hr2
      · exact absurd (hr1.symm.trans c_10) (nI_ne6 (by omega))
      · exact absurd (hr1.symm.trans c_10) (nI_ne6 (by omega))
    refine fs_zret E hr rfl hlk hP hS dX8_isTruthPossible_18 ?_
    exact ⟨hv, z, (uF F 5 fw_3), M_7, ⟨⟨rfl, rfl⟩, rfl, rfl, rfl, rfl, rfl⟩, (show fSame 239 249 _ _ from (fSame.ap fSame.rf ew_4 (by omega) (by omega)))⟩
