theorem hdr_rev (σ : Nat → Int32) (m r : Nat) : hdr (sRev σ m) (lkf (sRev σ m)) r = hdr σ (lkf σ) r := by
  unfold hdr; rw [nB_rev, lkf_rev, rk_rev σ (Or.inl (by omega)), rk_rev σ (Or.inl (by omega)), rk_rev σ (Or.inl (by omega))]
theorem sRev_y {σ : Nat → Int32} {m : Nat} (h : rk σ m 4 = 0) : sRev σ (m + 1) = upd (sRev σ m) (25 + 5 * m) (nI (if hdr σ (lkf σ) m = true then 1 else 2)) := by
  have e : sRev σ (m + 1) = if rk σ m 4 = 0 then upd (sRev σ m) (25 + 5 * m) (nI (if hdr σ (lkf σ) m = true then 1 else 2)) else sRev σ m := rfl
  rw [e, if_pos h]
theorem sRev_n {σ : Nat → Int32} {m : Nat} (h : ¬ rk σ m 4 = 0) : sRev σ (m + 1) = sRev σ m := by
  have e : sRev σ (m + 1) = if rk σ m 4 = 0 then upd (sRev σ m) (25 + 5 * m) (nI (if hdr σ (lkf σ) m = true then 1 else 2)) else sRev σ m := rfl
  rw [e, if_neg h]
set_option maxRecDepth 100000 in
set_option maxHeartbeats 4000000 in
theorem c_X8_reveal (l : Launch) (g : fG) (N : Nat) (ct : Nat → va_E) (σ : Nat → Int32) (k : Nat) (hs : Nat → Nat → Int32) (u1 : Bool) (s1 : Nat → Int32) (u2 : Bool) (s2 : Nat → Int32) (t : Nat → Nat) (len : Nat) (hN : 249 ≤ N) (hG : Good σ) (hR : RFAt g ct σ k hs u1 s1 u2 s2 t len) : Met l yX8_reveal (wsU yX8_reveal cX8_reveal 3 (some .int)) rX8_reveal (fPre g N ct [.ref (fa g 239)]) (fQi g N (fun r ct1 => r = nI (cN (fun r => decide (rk σ r 4 = 0)) (nT σ)) ∧ RFAt g ct1 (sRev σ (nT σ)) (min (k + 1) 6) (recH σ hs) u1 s1 u2 s2 t len ∧ fSame 239 249 ct ct1)) 0 0 (fB g) := by
  refine fs_start (own := RX8) (lv0 := [(0, .ref (fa g 239))]) (by decide) rfl (Nat.le_of_ble_eq_true rfl) rfl ?_
  intro p e s m args below meth c ls E hr hlk hnm hP hl hS
  have hx := E.1.1
  have hb := E.1.2.1
  obtain ⟨z, F, hM, hT, hH, hS9, hQ⟩ := id hR
  have m_1o : ct 239 = .inr (8, [.ref (fa g 240), .ref (fa g 241), .int (z 0), .ref (fa g 242), .ref (fa g 243), .ref (fa g 244), .int (z 1), .ref (fa g 245), .int (z 2), .ref (fa g 246), .ref (fa g 247), .ref (fa g 248), .int (z 3), .int (z 4), .int (z 5), .int (z 6), .int (z 7), .int (z 8), .int (z 9)]) := (hM).1
  have m_1r0 : ct 240 = .inl (fcI g, 121, .inl (F 0)) := (hM).2.1
  have m_1r1 : ct 241 = .inl (fcI g, 726, .inl (F 1)) := (hM).2.2.1
  have m_1r2 : ct 242 = .inl (fcI g, 242, .inl (F 2)) := (hM).2.2.2.1
  have m_1r3 : ct 243 = .inl (fcI g, 2, .inl (F 3)) := (hM).2.2.2.2.1
  have m_1r4 : ct 244 = .inl (fcI g, 60, .inl (F 4)) := (hM).2.2.2.2.2.1
  have m_1r5 : ct 245 = .inl (fcI g, 6, .inl (F 5)) := (hM).2.2.2.2.2.2.1
  have m_1r6 : ct 246 = .inl (fcI g, 36, .inl (F 6)) := (hM).2.2.2.2.2.2.2.1
  have m_1r7 : ct 247 = .inl (fcI g, 20, .inl (F 7)) := (hM).2.2.2.2.2.2.2.2.1
  have m_1r8 : ct 248 = .inl (fcI g, 20, .inl (F 8)) := (hM).2.2.2.2.2.2.2.2.2
  have hn3 := hG.n3
  have hn6 := hG.n6
  have hk20 := hG.k
  refine lv_aload_n hx hb dX8_reveal_0 rfl (lv_at hl 0 rfl) ?_
  refine fs_v (va_runV (As := []) (rest := []) E.1 (c_X8_record l g N ct z F σ (by omega) hG hM hT k hs hH) (lk_RX8_105 E.1.2.2.2.2 ⟨Nat.le_of_ble_eq_true rfl, Nat.le_of_ble_eq_true rfl⟩) (fpreV E hP hS fc8 m_1o (by omega)) rfl rfl hl.1 rfl (lv_room (Nat.le_of_ble_eq_true rfl)) dX8_reveal_1 ⟨Nat.zero_le _, Nat.zero_le _⟩) hS (fun ct_2 H locs p_1 hP hS => ?_)
  obtain ⟨z_3, F_4, M5, hRH5, e5, f50, f52, f53, f54, S_5⟩ := p_1
  have T_6 : SR σ F_4 := fun i hi => by rw [f50]; exact hT i hi
  have m_7o : ct_2 239 = .inr (8, [.ref (fa g 240), .ref (fa g 241), .int (z_3 0), .ref (fa g 242), .ref (fa g 243), .ref (fa g 244), .int (z_3 1), .ref (fa g 245), .int (z_3 2), .ref (fa g 246), .ref (fa g 247), .ref (fa g 248), .int (z_3 3), .int (z_3 4), .int (z_3 5), .int (z_3 6), .int (z_3 7), .int (z_3 8), .int (z_3 9)]) := (M5).1
  have m_7r0 : ct_2 240 = .inl (fcI g, 121, .inl (F_4 0)) := (M5).2.1
  have m_7r1 : ct_2 241 = .inl (fcI g, 726, .inl (F_4 1)) := (M5).2.2.1
  have m_7r2 : ct_2 242 = .inl (fcI g, 242, .inl (F_4 2)) := (M5).2.2.2.1
  have m_7r3 : ct_2 243 = .inl (fcI g, 2, .inl (F_4 3)) := (M5).2.2.2.2.1
  have m_7r4 : ct_2 244 = .inl (fcI g, 60, .inl (F_4 4)) := (M5).2.2.2.2.2.1
  have m_7r5 : ct_2 245 = .inl (fcI g, 6, .inl (F_4 5)) := (M5).2.2.2.2.2.2.1
  have m_7r6 : ct_2 246 = .inl (fcI g, 36, .inl (F_4 6)) := (M5).2.2.2.2.2.2.2.1
  have m_7r7 : ct_2 247 = .inl (fcI g, 20, .inl (F_4 7)) := (M5).2.2.2.2.2.2.2.2.1
  have m_7r8 : ct_2 248 = .inl (fcI g, 20, .inl (F_4 8)) := (M5).2.2.2.2.2.2.2.2.2
  refine lv_iconst (v := (nI 0)) hx hb dX8_reveal_4 (by decide) ?_
  refine lv_istore_n (lv' := [(1, .int (nI 0)), (0, .ref (fa g 239))]) hx hb dX8_reveal_5 rfl hl (by decide) rfl (fun ls hl => ?_)
  refine lv_iconst (v := (nI 0)) hx hb dX8_reveal_6 (by decide) ?_
  refine lv_istore_n (lv' := [(2, .int (nI 0)), (1, .int (nI 0)), (0, .ref (fa g 239))]) hx hb dX8_reveal_7 rfl hl (by decide) rfl (fun ls hl => ?_)
  have MA_8 : MA g ct_2 (mkz (z_3 0) (z_3 1) (z_3 2) (z_3 3) (z_3 4) (z_3 5) (z_3 6) (z_3 7) (z_3 8) (z_3 9)) (mkF (F_4 0) (F_4 1) (F_4 2) (F_4 3) (F_4 4) (F_4 5) (F_4 6) (F_4 7) (F_4 8)) := ⟨m_7o, m_7r0, m_7r1, m_7r2, m_7r3, m_7r4, m_7r5, m_7r6, m_7r7, m_7r8⟩
  refine fs_ind (g := g) (N := N) (St := Nat) (fun (i : Nat) (ct_9 : Nat → va_E) (ls : Array Slot) => lv_has ls 3 [(0, .ref (fa g 239)), (1, .int (nI (cN (fun i => decide (rk σ i 4 = 0)) i))), (2, .int (nI i))] ∧ ∃ (z1 : Nat → Int32) (F1 : Nat → Nat → Int32), MA g ct_9 z1 F1 ∧ (i ≤ nT σ ∧ ((z1 0 = z_3 0 ∧ z1 1 = z_3 1) ∧ F1 1 = F_4 1 ∧ F1 2 = F_4 2 ∧ F1 3 = F_4 3 ∧ F1 4 = F_4 4) ∧ SR (sRev σ i) F1) ∧ fSame 239 249 ct ct_9) (fun i => nT σ - i) ?_ 0 _ _ ls _ ⟨lv_sub hl [2, 1, 0] rfl, ⟨(mkz (z_3 0) (z_3 1) (z_3 2) (z_3 3) (z_3 4) (z_3 5) (z_3 6) (z_3 7) (z_3 8) (z_3 9)), (mkF (F_4 0) (F_4 1) (F_4 2) (F_4 3) (F_4 4) (F_4 5) (F_4 6) (F_4 7) (F_4 8)), MA_8, ⟨Nat.zero_le _, ⟨⟨rfl, rfl⟩, rfl, rfl, rfl, rfl⟩, T_6⟩, (show fSame 239 249 _ _ from (fSame.tr2 fSame.rf S_5 (by omega) (by omega)))⟩⟩ hP hS
  clear hl hP hS
  intro st ct_9 H ls locs hI hP hS ih
  obtain ⟨i, rfl⟩ : ∃ z, z = st := ⟨_, rfl⟩
  obtain ⟨hl, z1, F1, hM1, hI, hsm⟩ := hI
  have m_10o : ct_9 239 = .inr (8, [.ref (fa g 240), .ref (fa g 241), .int (z1 0), .ref (fa g 242), .ref (fa g 243), .ref (fa g 244), .int (z1 1), .ref (fa g 245), .int (z1 2), .ref (fa g 246), .ref (fa g 247), .ref (fa g 248), .int (z1 3), .int (z1 4), .int (z1 5), .int (z1 6), .int (z1 7), .int (z1 8), .int (z1 9)]) := (hM1).1
  have m_10r0 : ct_9 240 = .inl (fcI g, 121, .inl (F1 0)) := (hM1).2.1
  have m_10r1 : ct_9 241 = .inl (fcI g, 726, .inl (F1 1)) := (hM1).2.2.1
  have m_10r2 : ct_9 242 = .inl (fcI g, 242, .inl (F1 2)) := (hM1).2.2.2.1
  have m_10r3 : ct_9 243 = .inl (fcI g, 2, .inl (F1 3)) := (hM1).2.2.2.2.1
  have m_10r4 : ct_9 244 = .inl (fcI g, 60, .inl (F1 4)) := (hM1).2.2.2.2.2.1
  have m_10r5 : ct_9 245 = .inl (fcI g, 6, .inl (F1 5)) := (hM1).2.2.2.2.2.2.1
  have m_10r6 : ct_9 246 = .inl (fcI g, 36, .inl (F1 6)) := (hM1).2.2.2.2.2.2.2.1
  have m_10r7 : ct_9 247 = .inl (fcI g, 20, .inl (F1 7)) := (hM1).2.2.2.2.2.2.2.2.1
  have m_10r8 : ct_9 248 = .inl (fcI g, 20, .inl (F1 8)) := (hM1).2.2.2.2.2.2.2.2.2
  have hI1 := hI.1
  have hTl := hI.2.2
  have hK5 := hI.2.1
  have hnr := nT_rev σ i
  refine lv_iload_n hx hb dX8_reveal_8 rfl (lv_at hl 2 rfl) ?_
  refine lv_aload_n hx hb dX8_reveal_9 rfl (lv_at hl 0 rfl) ?_
  refine fs_get E hP (k := 239) (v := .ref (fa g 240)) 0 fc8 m_10o (by omega) (by decide) (wm wl_5 (i := 0) rfl) rfl dX8_reveal_10 ?_
  refine lv_iconst (v := (nI 1)) hx hb dX8_reveal_13 (by decide) ?_
  refine fs_iald E hP (k := 240) m_10r0 (by omega) (vp_in_nI (by omega) (by omega)) dX8_reveal_14 ?_
  refine fs_vi (y := (F1 0) 1) (congrArg (F1 0) (nI_clamp (by omega))) ?_
  refine fs_vi (y := (nI (nT σ))) ((hTl.k (Good_rev hG i)).trans (congrArg nI hnr)) ?_
  refine lv_icmp_ge (tgt := 53) hx hb dX8_reveal_15 (by decide) (fun c_15 => ?_) (fun c_15 => ?_)
  · rw [nI_leI (by omega) (by omega)] at c_15
    have hin : i = nT σ := by omega
    refine lv_iload_n hx hb dX8_reveal_53 rfl (lv_at hl 1 rfl) ?_
    have MA8 : MA g ct_9 (mkz (z1 0) (z1 1) (z1 2) (z1 3) (z1 4) (z1 5) (z1 6) (z1 7) (z1 8) (z1 9)) (mkF (F1 0) (F1 1) (F1 2) (F1 3) (F1 4) (F1 5) (F1 6) (F1 7) (F1 8)) := ⟨m_10o, m_10r0, m_10r1, m_10r2, m_10r3, m_10r4, m_10r5, m_10r6, m_10r7, m_10r8⟩
    refine fs_iret E hr hlk hP hS dX8_reveal_54 ?_
    refine ⟨by rw [← hin], RFAt.ch hS9 hQ MA8 (by rw [← hin]; exact hTl) ⟨hK5.1.1.trans hRH5.1, hRH5.2.1, fun i j hi hj => (congrFun hK5.2.1 _).trans (hRH5.2.2 i j hi hj)⟩ (hK5.1.2.trans e5) (hK5.2.2.1.trans f52) (hK5.2.2.2.1.trans f53) (hK5.2.2.2.2.trans f54), (show fSame 239 249 _ _ from fSame.tr hsm fSame.rf)⟩
  · rw [nI_leI (by omega) (by omega)] at c_15
    refine lv_aload_n hx hb dX8_reveal_18 rfl (lv_at hl 0 rfl) ?_
    refine lv_iload_n hx hb dX8_reveal_19 rfl (lv_at hl 2 rfl) ?_
    refine fs_pi (va_runV (As := [.int (nI i)]) (rest := []) E.1 (c_X8_isOpen l g N ct_9 z1 F1 (sRev σ i) (by omega) (Good_rev hG i) hM1 hTl i (by omega)) (lk_RX8_74 E.1.2.2.2.2 ⟨Nat.le_of_ble_eq_true rfl, Nat.le_of_ble_eq_true rfl⟩) (fpreV E hP hS fc8 m_10o (by omega)) rfl rfl hl.1 rfl (lv_room (Nat.le_of_ble_eq_true rfl)) dX8_reveal_20 ⟨Nat.zero_le _, Nat.zero_le _⟩) hS (fun r_20 locs p_20 hS => ?_)
    refine lv_if_eq (tgt := 47) hx hb dX8_reveal_23 (by decide) (fun c_23 => ?_) (fun c_23 => ?_)
    · have c_23 := (fb_0 p_20).mp c_23
      have h04 : ¬ rk σ i 4 = 0 := by rw [← rk_rev σ (m := i) (Or.inr ⟨rfl, by omega⟩)]; exact c_23
      have hs9 : SR (sRev σ (i + 1)) F1 := fun j hj => by rw [sRev_n h04]; exact hTl j hj
      have ec9 : nI (cN (fun i => decide (rk σ i 4 = 0)) i) = nI (cN (fun i => decide (rk σ i 4 = 0)) (i + 1)) := by rw [cN_f (decide_eq_false h04)]
      rw [ec9] at hl
      refine lv_iinc (v := (nI (i + 1))) (lv' := [(2, .int (nI (i + 1))), (0, .ref (fa g 239)), (1, .int (nI (cN (fun i => decide (rk σ i 4 = 0)) (i + 1))))]) hx hb dX8_reveal_47 hl (k := 2) rfl (nI_1 _) (by decide) rfl (fun ls hl => ?_)
      refine lv_goto (tgt := 8) hx hb dX8_reveal_50 (by decide) ?_
      have MA9 : MA g ct_9 (mkz (z1 0) (z1 1) (z1 2) (z1 3) (z1 4) (z1 5) (z1 6) (z1 7) (z1 8) (z1 9)) (mkF (F1 0) (F1 1) (F1 2) (F1 3) (F1 4) (F1 5) (F1 6) (F1 7) (F1 8)) := ⟨m_10o, m_10r0, m_10r1, m_10r2, m_10r3, m_10r4, m_10r5, m_10r6, m_10r7, m_10r8⟩
      exact ih (i + 1) _ _ ls _ (by (try dsimp only); omega) ⟨lv_sub hl [1, 2, 0] rfl, ⟨_, _, MA9, ⟨by omega, hI.2.1, hs9⟩, (show fSame 239 249 _ _ from fSame.tr hsm fSame.rf)⟩⟩ hP hS
    · have c_23 := (fb_1 p_20).mp c_23
      have h04 : rk σ i 4 = 0 := by rw [← rk_rev σ (m := i) (Or.inr ⟨rfl, by omega⟩)]; exact c_23
      refine lv_aload_n hx hb dX8_reveal_26 rfl (lv_at hl 0 rfl) ?_
      refine lv_iload_n hx hb dX8_reveal_27 rfl (lv_at hl 2 rfl) ?_
      refine lv_aload_n hx hb dX8_reveal_28 rfl (lv_at hl 0 rfl) ?_
      refine lv_iload_n hx hb dX8_reveal_29 rfl (lv_at hl 2 rfl) ?_
      refine fs_i (va_runV (As := [.int (nI i)]) (rest := [.int (nI i), .ref (fa g 239)]) E.1 (c_X8_isTrue l g N ct_9 z1 F1 (sRev σ i) (by omega) (Good_rev hG i) hM1 hTl i (by omega)) (lk_RX8_156 E.1.2.2.2.2 ⟨Nat.le_of_ble_eq_true rfl, Nat.le_of_ble_eq_true rfl⟩) (fpreV E hP hS fc8 m_10o (by omega)) rfl rfl hl.1 rfl (lv_room (Nat.le_of_ble_eq_true rfl)) dX8_reveal_30 ⟨Nat.zero_le _, Nat.zero_le _⟩) hS (fun r_30 ct_11 H locs p_30 hP hS => ?_)
      obtain ⟨ht30, fw30, ew30, -⟩ := p_30
      have M_12 := MA.f5 hM1 ew30
      have m_14o : ct_11 239 = .inr (8, [.ref (fa g 240), .ref (fa g 241), .int (z1 0), .ref (fa g 242), .ref (fa g 243), .ref (fa g 244), .int (z1 1), .ref (fa g 245), .int (z1 2), .ref (fa g 246), .ref (fa g 247), .ref (fa g 248), .int (z1 3), .int (z1 4), .int (z1 5), .int (z1 6), .int (z1 7), .int (z1 8), .int (z1 9)]) := (M_12).1
      have m_14r0 : ct_11 240 = .inl (fcI g, 121, .inl (F1 0)) := (M_12).2.1
      have m_14r1 : ct_11 241 = .inl (fcI g, 726, .inl (F1 1)) := (M_12).2.2.1
      have m_14r2 : ct_11 242 = .inl (fcI g, 242, .inl (F1 2)) := (M_12).2.2.2.1
      have m_14r3 : ct_11 243 = .inl (fcI g, 2, .inl (F1 3)) := (M_12).2.2.2.2.1
      have m_14r4 : ct_11 244 = .inl (fcI g, 60, .inl (F1 4)) := (M_12).2.2.2.2.2.1
      have m_14r5 : ct_11 245 = .inl (fcI g, 6, .inl fw30) := (M_12).2.2.2.2.2.2.1
      have m_14r6 : ct_11 246 = .inl (fcI g, 36, .inl (F1 6)) := (M_12).2.2.2.2.2.2.2.1
      have m_14r7 : ct_11 247 = .inl (fcI g, 20, .inl (F1 7)) := (M_12).2.2.2.2.2.2.2.2.1
      have m_14r8 : ct_11 248 = .inl (fcI g, 20, .inl (F1 8)) := (M_12).2.2.2.2.2.2.2.2.2
      have T_13 : SR (sRev σ i) (uF F1 5 fw30) := fun i9 hi => hTl i9 hi
      refine lv_if_eq (tgt := 40) hx hb dX8_reveal_33 (by decide) (fun c_33 => ?_) (fun c_33 => ?_)
      · have c_33 := (fb_0 ht30).mp c_33
        refine lv_iconst (v := (nI 2)) hx hb dX8_reveal_40 (by decide) ?_
        refine fs_v (va_runV (As := [.int (nI i), .int (nI 2)]) (rest := []) E.1 (c_X8_setHow l g N ct_11 z1 (uF F1 5 fw30) (sRev σ i) (by omega) (Good_rev hG i) M_12 T_13 i 2 (by omega)) (lk_RX8_149 E.1.2.2.2.2 ⟨Nat.le_of_ble_eq_true rfl, Nat.le_of_ble_eq_true rfl⟩) (fpreV E hP hS fc8 m_14o (by omega)) rfl rfl hl.1 rfl (lv_room (Nat.le_of_ble_eq_true rfl)) dX8_reveal_41 ⟨Nat.zero_le _, Nat.zero_le _⟩) hS (fun ct_15 H locs p_41 hP hS => ?_)
        have M_16 := MA.f0 M_12 p_41
        have m_18o : ct_15 239 = .inr (8, [.ref (fa g 240), .ref (fa g 241), .int (z1 0), .ref (fa g 242), .ref (fa g 243), .ref (fa g 244), .int (z1 1), .ref (fa g 245), .int (z1 2), .ref (fa g 246), .ref (fa g 247), .ref (fa g 248), .int (z1 3), .int (z1 4), .int (z1 5), .int (z1 6), .int (z1 7), .int (z1 8), .int (z1 9)]) := (M_16).1
        have m_18r0 : ct_15 240 = .inl (fcI g, 121, .inl (upd ((uF F1 5 fw30) 0) (25 + 5 * i) (nI 2))) := (M_16).2.1
        have m_18r1 : ct_15 241 = .inl (fcI g, 726, .inl (F1 1)) := (M_16).2.2.1
        have m_18r2 : ct_15 242 = .inl (fcI g, 242, .inl (F1 2)) := (M_16).2.2.2.1
        have m_18r3 : ct_15 243 = .inl (fcI g, 2, .inl (F1 3)) := (M_16).2.2.2.2.1
        have m_18r4 : ct_15 244 = .inl (fcI g, 60, .inl (F1 4)) := (M_16).2.2.2.2.2.1
        have m_18r5 : ct_15 245 = .inl (fcI g, 6, .inl fw30) := (M_16).2.2.2.2.2.2.1
        have m_18r6 : ct_15 246 = .inl (fcI g, 36, .inl (F1 6)) := (M_16).2.2.2.2.2.2.2.1
        have m_18r7 : ct_15 247 = .inl (fcI g, 20, .inl (F1 7)) := (M_16).2.2.2.2.2.2.2.2.1
        have m_18r8 : ct_15 248 = .inl (fcI g, 20, .inl (F1 8)) := (M_16).2.2.2.2.2.2.2.2.2
        have hx9 : (if hdr σ (lkf σ) i = true then 1 else 2) = 2 := by rw [← hdr_rev σ i i]; exact if_neg c_33
        have hs9 : SR (sRev σ (i + 1)) (uF (uF F1 5 fw30) 0 (upd ((uF F1 5 fw30) 0) (25 + 5 * i) (nI 2))) := fun j hj => by rw [sRev_y h04, hx9]; exact upd_cg (T_13 j hj)
        refine lv_iinc (v := (nI (cN (fun i => decide (rk σ i 4 = 0)) (i + 1)))) (lv' := [(1, .int (nI (cN (fun i => decide (rk σ i 4 = 0)) (i + 1)))), (0, .ref (fa g 239)), (2, .int (nI i))]) hx hb dX8_reveal_44 hl (k := 1) rfl (by rw [cN_t (decide_eq_true h04)]; exact nI_1 _) (by decide) rfl (fun ls hl => ?_)
        refine lv_iinc (v := (nI (i + 1))) (lv' := [(2, .int (nI (i + 1))), (1, .int (nI (cN (fun i => decide (rk σ i 4 = 0)) (i + 1)))), (0, .ref (fa g 239))]) hx hb dX8_reveal_47 hl (k := 2) rfl (nI_1 _) (by decide) rfl (fun ls hl => ?_)
        refine lv_goto (tgt := 8) hx hb dX8_reveal_50 (by decide) ?_
        have MA9 : MA g ct_15 (mkz (z1 0) (z1 1) (z1 2) (z1 3) (z1 4) (z1 5) (z1 6) (z1 7) (z1 8) (z1 9)) (mkF (upd ((uF F1 5 fw30) 0) (25 + 5 * i) (nI 2)) (F1 1) (F1 2) (F1 3) (F1 4) fw30 (F1 6) (F1 7) (F1 8)) := ⟨m_18o, m_18r0, m_18r1, m_18r2, m_18r3, m_18r4, m_18r5, m_18r6, m_18r7, m_18r8⟩
        exact ih (i + 1) _ _ ls _ (by (try dsimp only); omega) ⟨lv_sub hl [2, 1, 0] rfl, ⟨_, _, MA9, ⟨by omega, hI.2.1, hs9⟩, (show fSame 239 249 _ _ from fSame.tr hsm (fSame.ap (fSame.ap fSame.rf ew30 (by omega) (by omega)) p_41 (by omega) (by omega)))⟩⟩ hP hS
      · have c_33 := (fb_1 ht30).mp c_33
        refine lv_iconst (v := (nI 1)) hx hb dX8_reveal_36 (by decide) ?_
        refine lv_goto (tgt := 41) hx hb dX8_reveal_37 (by decide) ?_
        refine fs_v (va_runV (As := [.int (nI i), .int (nI 1)]) (rest := []) E.1 (c_X8_setHow l g N ct_11 z1 (uF F1 5 fw30) (sRev σ i) (by omega) (Good_rev hG i) M_12 T_13 i 1 (by omega)) (lk_RX8_149 E.1.2.2.2.2 ⟨Nat.le_of_ble_eq_true rfl, Nat.le_of_ble_eq_true rfl⟩) (fpreV E hP hS fc8 m_14o (by omega)) rfl rfl hl.1 rfl (lv_room (Nat.le_of_ble_eq_true rfl)) dX8_reveal_41 ⟨Nat.zero_le _, Nat.zero_le _⟩) hS (fun ct_19 H locs p_41 hP hS => ?_)
        have M_20 := MA.f0 M_12 p_41
        have m_22o : ct_19 239 = .inr (8, [.ref (fa g 240), .ref (fa g 241), .int (z1 0), .ref (fa g 242), .ref (fa g 243), .ref (fa g 244), .int (z1 1), .ref (fa g 245), .int (z1 2), .ref (fa g 246), .ref (fa g 247), .ref (fa g 248), .int (z1 3), .int (z1 4), .int (z1 5), .int (z1 6), .int (z1 7), .int (z1 8), .int (z1 9)]) := (M_20).1
        have m_22r0 : ct_19 240 = .inl (fcI g, 121, .inl (upd ((uF F1 5 fw30) 0) (25 + 5 * i) (nI 1))) := (M_20).2.1
        have m_22r1 : ct_19 241 = .inl (fcI g, 726, .inl (F1 1)) := (M_20).2.2.1
        have m_22r2 : ct_19 242 = .inl (fcI g, 242, .inl (F1 2)) := (M_20).2.2.2.1
        have m_22r3 : ct_19 243 = .inl (fcI g, 2, .inl (F1 3)) := (M_20).2.2.2.2.1
        have m_22r4 : ct_19 244 = .inl (fcI g, 60, .inl (F1 4)) := (M_20).2.2.2.2.2.1
        have m_22r5 : ct_19 245 = .inl (fcI g, 6, .inl fw30) := (M_20).2.2.2.2.2.2.1
        have m_22r6 : ct_19 246 = .inl (fcI g, 36, .inl (F1 6)) := (M_20).2.2.2.2.2.2.2.1
        have m_22r7 : ct_19 247 = .inl (fcI g, 20, .inl (F1 7)) := (M_20).2.2.2.2.2.2.2.2.1
        have m_22r8 : ct_19 248 = .inl (fcI g, 20, .inl (F1 8)) := (M_20).2.2.2.2.2.2.2.2.2
        have hx9 : (if hdr σ (lkf σ) i = true then 1 else 2) = 1 := by rw [← hdr_rev σ i i]; exact if_pos c_33
        have hs9 : SR (sRev σ (i + 1)) (uF (uF F1 5 fw30) 0 (upd ((uF F1 5 fw30) 0) (25 + 5 * i) (nI 1))) := fun j hj => by rw [sRev_y h04, hx9]; exact upd_cg (T_13 j hj)
        refine lv_iinc (v := (nI (cN (fun i => decide (rk σ i 4 = 0)) (i + 1)))) (lv' := [(1, .int (nI (cN (fun i => decide (rk σ i 4 = 0)) (i + 1)))), (0, .ref (fa g 239)), (2, .int (nI i))]) hx hb dX8_reveal_44 hl (k := 1) rfl (by rw [cN_t (decide_eq_true h04)]; exact nI_1 _) (by decide) rfl (fun ls hl => ?_)
        refine lv_iinc (v := (nI (i + 1))) (lv' := [(2, .int (nI (i + 1))), (1, .int (nI (cN (fun i => decide (rk σ i 4 = 0)) (i + 1)))), (0, .ref (fa g 239))]) hx hb dX8_reveal_47 hl (k := 2) rfl (nI_1 _) (by decide) rfl (fun ls hl => ?_)
        refine lv_goto (tgt := 8) hx hb dX8_reveal_50 (by decide) ?_
        have MA9 : MA g ct_19 (mkz (z1 0) (z1 1) (z1 2) (z1 3) (z1 4) (z1 5) (z1 6) (z1 7) (z1 8) (z1 9)) (mkF (upd ((uF F1 5 fw30) 0) (25 + 5 * i) (nI 1)) (F1 1) (F1 2) (F1 3) (F1 4) fw30 (F1 6) (F1 7) (F1 8)) := ⟨m_22o, m_22r0, m_22r1, m_22r2, m_22r3, m_22r4, m_22r5, m_22r6, m_22r7, m_22r8⟩
        exact ih (i + 1) _ _ ls _ (by (try dsimp only); omega) ⟨lv_sub hl [2, 1, 0] rfl, ⟨_, _, MA9, ⟨by omega, hI.2.1, hs9⟩, (show fSame 239 249 _ _ from fSame.tr hsm (fSame.ap (fSame.ap fSame.rf ew30 (by omega) (by omega)) p_41 (by omega) (by omega)))⟩⟩ hP hS
