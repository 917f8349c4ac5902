theorem RH.kk {k : Nat} {hs : Nat → Nat → Int32} {z z1 : Nat → Int32} {F F1 : Nat → Nat → Int32} (H : RH k hs z F) (K : KK z F z1 F1) : RH k hs z1 F1 := ⟨by rw [K.1.1]; exact H.1, H.2.1, fun i j hi hj => by rw [K.2.2.1]; exact H.2.2 i j hi hj⟩
set_option maxRecDepth 100000 in
set_option maxHeartbeats 4000000 in
theorem c_X8_prove (l : Launch) (g : fG) (N : Nat) (ct : Nat → va_E) (σ : Nat → Int32) (k : Nat) (hs : Nat → Nat → Int32) (u1 : Bool) (s1 : Nat → Int32) (u2 : Bool) (s2 : Nat → Int32) (t : Nat → Nat) (len : Nat) (hN : 249 ≤ N) (hG : Good σ) (hR : RFAt g ct σ k hs u1 s1 u2 s2 t len) (x : Int32) (so : Bool) : Met l yX8_prove (wsU yX8_prove cX8_prove 3 (some .int)) rX8_prove (fPre g N ct [.ref (fa g 239), .int x, .int (bI (so = true))]) (fQi g N (fun r ct1 => r = (if hrx σ x then (if rk σ x.toNatClampNeg 4 = 0 then nI (Wn (upd σ (25 + 5 * x.toNatClampNeg) (nI (howv so)))) else -5) else -1) ∧ RFc g ct1 (hrx σ x ∧ rk σ x.toNatClampNeg 4 = 0) (upd σ (25 + 5 * x.toNatClampNeg) (nI (howv so))) σ k hs u1 s1 u2 s2 t len ∧ fSame 239 249 ct ct1)) 0 0 (fB g) := by
  refine fs_start (own := RX8) (lv0 := [(0, .ref (fa g 239)), (1, .int x), (2, .int (bI (so = true)))]) (by decide) rfl (Nat.le_of_ble_eq_true rfl) rfl ?_
  intro p e s m args below meth c ls E hr hlk hnm hP hl hS
  have hx := E.1.1
  have hb := E.1.2.1
  obtain ⟨z, F, hM, hT, hH, hS9, hQ⟩ := id hR
  have m_1o : ct 239 = .inr (8, [.ref (fa g 240), .ref (fa g 241), .int (z 0), .ref (fa g 242), .ref (fa g 243), .ref (fa g 244), .int (z 1), .ref (fa g 245), .int (z 2), .ref (fa g 246), .ref (fa g 247), .ref (fa g 248), .int (z 3), .int (z 4), .int (z 5), .int (z 6), .int (z 7), .int (z 8), .int (z 9)]) := (hM).1
  have m_1r0 : ct 240 = .inl (fcI g, 121, .inl (F 0)) := (hM).2.1
  have m_1r1 : ct 241 = .inl (fcI g, 726, .inl (F 1)) := (hM).2.2.1
  have m_1r2 : ct 242 = .inl (fcI g, 242, .inl (F 2)) := (hM).2.2.2.1
  have m_1r3 : ct 243 = .inl (fcI g, 2, .inl (F 3)) := (hM).2.2.2.2.1
  have m_1r4 : ct 244 = .inl (fcI g, 60, .inl (F 4)) := (hM).2.2.2.2.2.1
  have m_1r5 : ct 245 = .inl (fcI g, 6, .inl (F 5)) := (hM).2.2.2.2.2.2.1
  have m_1r6 : ct 246 = .inl (fcI g, 36, .inl (F 6)) := (hM).2.2.2.2.2.2.2.1
  have m_1r7 : ct 247 = .inl (fcI g, 20, .inl (F 7)) := (hM).2.2.2.2.2.2.2.2.1
  have m_1r8 : ct 248 = .inl (fcI g, 20, .inl (F 8)) := (hM).2.2.2.2.2.2.2.2.2
  have hn3 := hG.n3
  have hn6 := hG.n6
  have hk20 := hG.k
  refine lv_aload_n hx hb dX8_prove_0 rfl (lv_at hl 0 rfl) ?_
  refine lv_iload_n hx hb dX8_prove_1 rfl (lv_at hl 1 rfl) ?_
  refine fs_pi (va_runV (As := [.int x]) (rest := []) E.1 (c_X8_isRumour l g N ct z F σ (by omega) hG hM hT x) (lk_RX8_146 E.1.2.2.2.2 ⟨Nat.le_of_ble_eq_true rfl, Nat.le_of_ble_eq_true rfl⟩) (fpreV E hP hS fc8 m_1o (by omega)) rfl rfl hl.1 rfl (lv_room (Nat.le_of_ble_eq_true rfl)) dX8_prove_2 ⟨Nat.zero_le _, Nat.zero_le _⟩) hS (fun r_2 locs p_2 hS => ?_)
  refine lv_if_ne (tgt := 10) hx hb dX8_prove_5 (by decide) (fun c_5 => ?_) (fun c_5 => ?_)
  · have c_5 := (fb_1 p_2).mp c_5
    obtain ⟨p0, hp0, rfl⟩ := fex c_5.1 c_5.2
    refine lv_aload_n hx hb dX8_prove_10 rfl (lv_at hl 0 rfl) ?_
    refine lv_iload_n hx hb dX8_prove_11 rfl (lv_at hl 1 rfl) ?_
    refine fs_pi (va_runV (As := [.int (nI p0)]) (rest := []) E.1 (c_X8_isOpen l g N ct z F σ (by omega) hG hM hT p0 (by omega)) (lk_RX8_74 E.1.2.2.2.2 ⟨Nat.le_of_ble_eq_true rfl, Nat.le_of_ble_eq_true rfl⟩) (fpreV E hP hS fc8 m_1o (by omega)) rfl rfl hl.1 rfl (lv_room (Nat.le_of_ble_eq_true rfl)) dX8_prove_12 ⟨Nat.zero_le _, Nat.zero_le _⟩) hS (fun r_12 locs p_12 hS => ?_)
    refine lv_if_ne (tgt := 21) hx hb dX8_prove_15 (by decide) (fun c_15 => ?_) (fun c_15 => ?_)
    · have c_15 := (fb_1 p_12).mp c_15
      refine lv_aload_n hx hb dX8_prove_21 rfl (lv_at hl 0 rfl) ?_
      refine fs_v (va_runV (As := []) (rest := []) E.1 (c_X8_record l g N ct z F σ (by omega) hG hM hT k hs hH) (lk_RX8_105 E.1.2.2.2.2 ⟨Nat.le_of_ble_eq_true rfl, Nat.le_of_ble_eq_true rfl⟩) (fpreV E hP hS fc8 m_1o (by omega)) rfl rfl hl.1 rfl (lv_room (Nat.le_of_ble_eq_true rfl)) dX8_prove_22 ⟨Nat.zero_le _, Nat.zero_le _⟩) hS (fun ct_2 H locs p_22 hP hS => ?_)
      obtain ⟨z_3, F_4, M5, hRH5, e5, f50, f52, f53, f54, S_5⟩ := p_22
      have T_6 : SR σ F_4 := fun i hi => by rw [f50]; exact hT i hi
      have m_7o : ct_2 239 = .inr (8, [.ref (fa g 240), .ref (fa g 241), .int (z_3 0), .ref (fa g 242), .ref (fa g 243), .ref (fa g 244), .int (z_3 1), .ref (fa g 245), .int (z_3 2), .ref (fa g 246), .ref (fa g 247), .ref (fa g 248), .int (z_3 3), .int (z_3 4), .int (z_3 5), .int (z_3 6), .int (z_3 7), .int (z_3 8), .int (z_3 9)]) := (M5).1
      have m_7r0 : ct_2 240 = .inl (fcI g, 121, .inl (F_4 0)) := (M5).2.1
      have m_7r1 : ct_2 241 = .inl (fcI g, 726, .inl (F_4 1)) := (M5).2.2.1
      have m_7r2 : ct_2 242 = .inl (fcI g, 242, .inl (F_4 2)) := (M5).2.2.2.1
      have m_7r3 : ct_2 243 = .inl (fcI g, 2, .inl (F_4 3)) := (M5).2.2.2.2.1
      have m_7r4 : ct_2 244 = .inl (fcI g, 60, .inl (F_4 4)) := (M5).2.2.2.2.2.1
      have m_7r5 : ct_2 245 = .inl (fcI g, 6, .inl (F_4 5)) := (M5).2.2.2.2.2.2.1
      have m_7r6 : ct_2 246 = .inl (fcI g, 36, .inl (F_4 6)) := (M5).2.2.2.2.2.2.2.1
      have m_7r7 : ct_2 247 = .inl (fcI g, 20, .inl (F_4 7)) := (M5).2.2.2.2.2.2.2.2.1
      have m_7r8 : ct_2 248 = .inl (fcI g, 20, .inl (F_4 8)) := (M5).2.2.2.2.2.2.2.2.2
      refine lv_aload_n hx hb dX8_prove_25 rfl (lv_at hl 0 rfl) ?_
      refine lv_iload_n hx hb dX8_prove_26 rfl (lv_at hl 1 rfl) ?_
      refine lv_iload_n hx hb dX8_prove_27 rfl (lv_at hl 2 rfl) ?_
      refine lv_if_eq (tgt := 35) hx hb dX8_prove_28 (by decide) (fun c_28 => ?_) (fun c_28 => ?_)
      · have c_28 := (fb_0 rfl).mp c_28
        refine lv_iconst (v := (nI 2)) hx hb dX8_prove_35 (by decide) ?_
        refine fs_v (va_runV (As := [.int (nI p0), .int (nI 2)]) (rest := []) E.1 (c_X8_setHow l g N ct_2 z_3 F_4 σ (by omega) hG M5 T_6 p0 2 (by omega)) (lk_RX8_149 E.1.2.2.2.2 ⟨Nat.le_of_ble_eq_true rfl, Nat.le_of_ble_eq_true rfl⟩) (fpreV E hP hS fc8 m_7o (by omega)) rfl rfl hl.1 rfl (lv_room (Nat.le_of_ble_eq_true rfl)) dX8_prove_36 ⟨Nat.zero_le _, Nat.zero_le _⟩) hS (fun ct_8 H locs p_36 hP hS => ?_)
        have M_9 := MA.f0 M5 p_36
        have m_11o : ct_8 239 = .inr (8, [.ref (fa g 240), .ref (fa g 241), .int (z_3 0), .ref (fa g 242), .ref (fa g 243), .ref (fa g 244), .int (z_3 1), .ref (fa g 245), .int (z_3 2), .ref (fa g 246), .ref (fa g 247), .ref (fa g 248), .int (z_3 3), .int (z_3 4), .int (z_3 5), .int (z_3 6), .int (z_3 7), .int (z_3 8), .int (z_3 9)]) := (M_9).1
        have m_11r0 : ct_8 240 = .inl (fcI g, 121, .inl (upd (F_4 0) (25 + 5 * p0) (nI 2))) := (M_9).2.1
        have m_11r1 : ct_8 241 = .inl (fcI g, 726, .inl (F_4 1)) := (M_9).2.2.1
        have m_11r2 : ct_8 242 = .inl (fcI g, 242, .inl (F_4 2)) := (M_9).2.2.2.1
        have m_11r3 : ct_8 243 = .inl (fcI g, 2, .inl (F_4 3)) := (M_9).2.2.2.2.1
        have m_11r4 : ct_8 244 = .inl (fcI g, 60, .inl (F_4 4)) := (M_9).2.2.2.2.2.1
        have m_11r5 : ct_8 245 = .inl (fcI g, 6, .inl (F_4 5)) := (M_9).2.2.2.2.2.2.1
        have m_11r6 : ct_8 246 = .inl (fcI g, 36, .inl (F_4 6)) := (M_9).2.2.2.2.2.2.2.1
        have m_11r7 : ct_8 247 = .inl (fcI g, 20, .inl (F_4 7)) := (M_9).2.2.2.2.2.2.2.2.1
        have m_11r8 : ct_8 248 = .inl (fcI g, 20, .inl (F_4 8)) := (M_9).2.2.2.2.2.2.2.2.2
        have T7 : SR (upd σ (25 + 5 * p0) (nI 2)) (uF F_4 0 (upd (F_4 0) (25 + 5 * p0) (nI 2))) := fun i hi => upd_cg (T_6 i hi)
        have hhow : howv so = 2 := by unfold howv; rw [if_neg c_28]
        refine lv_aload_n hx hb dX8_prove_39 rfl (lv_at hl 0 rfl) ?_
        refine fs_i (va_runV (As := []) (rest := []) E.1 (c_X8_worldsNow l g N ct_8 z_3 (uF F_4 0 (upd (F_4 0) (25 + 5 * p0) (nI 2))) (upd σ (25 + 5 * p0) (nI 2)) (by omega) (Good_how hG (by omega)) M_9 T7) (lk_RX8_153 E.1.2.2.2.2 ⟨Nat.le_of_ble_eq_true rfl, Nat.le_of_ble_eq_true rfl⟩) (fpreV E hP hS fc8 m_11o (by omega)) rfl rfl hl.1 rfl (lv_room (Nat.le_of_ble_eq_true rfl)) dX8_prove_40 ⟨Nat.zero_le _, Nat.zero_le _⟩) hS (fun r_40 ct_12 H locs p_40 hP hS => ?_)
        refine fs_vi (y := (nI (Wn (upd σ (25 + 5 * p0) (nI 2))))) p_40.1 ?_
        obtain ⟨z_13, F_14, M_15, K_16, C_17, S_18⟩ := p_40.2
        have T_19 := KK.sr K_16 T7
        have m_20o : ct_12 239 = .inr (8, [.ref (fa g 240), .ref (fa g 241), .int (z_13 0), .ref (fa g 242), .ref (fa g 243), .ref (fa g 244), .int (z_13 1), .ref (fa g 245), .int (z_13 2), .ref (fa g 246), .ref (fa g 247), .ref (fa g 248), .int (z_13 3), .int (z_13 4), .int (z_13 5), .int (z_13 6), .int (z_13 7), .int (z_13 8), .int (z_13 9)]) := (M_15).1
        have m_20r0 : ct_12 240 = .inl (fcI g, 121, .inl (F_14 0)) := (M_15).2.1
        have m_20r1 : ct_12 241 = .inl (fcI g, 726, .inl (F_14 1)) := (M_15).2.2.1
        have m_20r2 : ct_12 242 = .inl (fcI g, 242, .inl (F_14 2)) := (M_15).2.2.2.1
        have m_20r3 : ct_12 243 = .inl (fcI g, 2, .inl (F_14 3)) := (M_15).2.2.2.2.1
        have m_20r4 : ct_12 244 = .inl (fcI g, 60, .inl (F_14 4)) := (M_15).2.2.2.2.2.1
        have m_20r5 : ct_12 245 = .inl (fcI g, 6, .inl (F_14 5)) := (M_15).2.2.2.2.2.2.1
        have m_20r6 : ct_12 246 = .inl (fcI g, 36, .inl (F_14 6)) := (M_15).2.2.2.2.2.2.2.1
        have m_20r7 : ct_12 247 = .inl (fcI g, 20, .inl (F_14 7)) := (M_15).2.2.2.2.2.2.2.2.1
        have m_20r8 : ct_12 248 = .inl (fcI g, 20, .inl (F_14 8)) := (M_15).2.2.2.2.2.2.2.2.2
        refine fs_iret E hr hlk hP hS dX8_prove_43 ?_
        rw [nI_cl (show p0 < 1000000 by omega)]
        rw [hhow]
        refine ⟨?_, RFc_t ⟨c_5, c_15⟩ (RFAt.ch hS9 hQ M_15 T_19 (RH.kk (F := uF F_4 0 (upd (F_4 0) (25 + 5 * p0) (nI 2))) hRH5 K_16) (K_16.1.2.trans e5) (K_16.2.2.2.1.trans f52) (K_16.2.2.2.2.1.trans f53) (K_16.2.2.2.2.2.trans f54)), (show fSame 239 249 _ _ from (fSame.tr2 (fSame.ap (fSame.tr2 fSame.rf S_5 (by omega) (by omega)) p_36 (by omega) (by omega)) S_18 (by omega) (by omega)))⟩
        rw [if_pos c_5, if_pos c_15]
      · have c_28 := (fb_1 rfl).mp c_28
        refine lv_iconst (v := (nI 1)) hx hb dX8_prove_31 (by decide) ?_
        refine lv_goto (tgt := 36) hx hb dX8_prove_32 (by decide) ?_
        refine fs_v (va_runV (As := [.int (nI p0), .int (nI 1)]) (rest := []) E.1 (c_X8_setHow l g N ct_2 z_3 F_4 σ (by omega) hG M5 T_6 p0 1 (by omega)) (lk_RX8_149 E.1.2.2.2.2 ⟨Nat.le_of_ble_eq_true rfl, Nat.le_of_ble_eq_true rfl⟩) (fpreV E hP hS fc8 m_7o (by omega)) rfl rfl hl.1 rfl (lv_room (Nat.le_of_ble_eq_true rfl)) dX8_prove_36 ⟨Nat.zero_le _, Nat.zero_le _⟩) hS (fun ct_21 H locs p_36 hP hS => ?_)
        have M_22 := MA.f0 M5 p_36
        have m_24o : ct_21 239 = .inr (8, [.ref (fa g 240), .ref (fa g 241), .int (z_3 0), .ref (fa g 242), .ref (fa g 243), .ref (fa g 244), .int (z_3 1), .ref (fa g 245), .int (z_3 2), .ref (fa g 246), .ref (fa g 247), .ref (fa g 248), .int (z_3 3), .int (z_3 4), .int (z_3 5), .int (z_3 6), .int (z_3 7), .int (z_3 8), .int (z_3 9)]) := (M_22).1
        have m_24r0 : ct_21 240 = .inl (fcI g, 121, .inl (upd (F_4 0) (25 + 5 * p0) (nI 1))) := (M_22).2.1
        have m_24r1 : ct_21 241 = .inl (fcI g, 726, .inl (F_4 1)) := (M_22).2.2.1
        have m_24r2 : ct_21 242 = .inl (fcI g, 242, .inl (F_4 2)) := (M_22).2.2.2.1
        have m_24r3 : ct_21 243 = .inl (fcI g, 2, .inl (F_4 3)) := (M_22).2.2.2.2.1
        have m_24r4 : ct_21 244 = .inl (fcI g, 60, .inl (F_4 4)) := (M_22).2.2.2.2.2.1
        have m_24r5 : ct_21 245 = .inl (fcI g, 6, .inl (F_4 5)) := (M_22).2.2.2.2.2.2.1
        have m_24r6 : ct_21 246 = .inl (fcI g, 36, .inl (F_4 6)) := (M_22).2.2.2.2.2.2.2.1
        have m_24r7 : ct_21 247 = .inl (fcI g, 20, .inl (F_4 7)) := (M_22).2.2.2.2.2.2.2.2.1
        have m_24r8 : ct_21 248 = .inl (fcI g, 20, .inl (F_4 8)) := (M_22).2.2.2.2.2.2.2.2.2
        have T7 : SR (upd σ (25 + 5 * p0) (nI 1)) (uF F_4 0 (upd (F_4 0) (25 + 5 * p0) (nI 1))) := fun i hi => upd_cg (T_6 i hi)
        have hhow : howv so = 1 := by unfold howv; rw [if_pos c_28]
        refine lv_aload_n hx hb dX8_prove_39 rfl (lv_at hl 0 rfl) ?_
        refine fs_i (va_runV (As := []) (rest := []) E.1 (c_X8_worldsNow l g N ct_21 z_3 (uF F_4 0 (upd (F_4 0) (25 + 5 * p0) (nI 1))) (upd σ (25 + 5 * p0) (nI 1)) (by omega) (Good_how hG (by omega)) M_22 T7) (lk_RX8_153 E.1.2.2.2.2 ⟨Nat.le_of_ble_eq_true rfl, Nat.le_of_ble_eq_true rfl⟩) (fpreV E hP hS fc8 m_24o (by omega)) rfl rfl hl.1 rfl (lv_room (Nat.le_of_ble_eq_true rfl)) dX8_prove_40 ⟨Nat.zero_le _, Nat.zero_le _⟩) hS (fun r_40 ct_25 H locs p_40 hP hS => ?_)
        refine fs_vi (y := (nI (Wn (upd σ (25 + 5 * p0) (nI 1))))) p_40.1 ?_
        obtain ⟨z_26, F_27, M_28, K_29, C_30, S_31⟩ := p_40.2
        have T_32 := KK.sr K_29 T7
        have m_33o : ct_25 239 = .inr (8, [.ref (fa g 240), .ref (fa g 241), .int (z_26 0), .ref (fa g 242), .ref (fa g 243), .ref (fa g 244), .int (z_26 1), .ref (fa g 245), .int (z_26 2), .ref (fa g 246), .ref (fa g 247), .ref (fa g 248), .int (z_26 3), .int (z_26 4), .int (z_26 5), .int (z_26 6), .int (z_26 7), .int (z_26 8), .int (z_26 9)]) := (M_28).1
        have m_33r0 : ct_25 240 = .inl (fcI g, 121, .inl (F_27 0)) := (M_28).2.1
        have m_33r1 : ct_25 241 = .inl (fcI g, 726, .inl (F_27 1)) := (M_28).2.2.1
        have m_33r2 : ct_25 242 = .inl (fcI g, 242, .inl (F_27 2)) := (M_28).2.2.2.1
        have m_33r3 : ct_25 243 = .inl (fcI g, 2, .inl (F_27 3)) := (M_28).2.2.2.2.1
        have m_33r4 : ct_25 244 = .inl (fcI g, 60, .inl (F_27 4)) := (M_28).2.2.2.2.2.1
        have m_33r5 : ct_25 245 = .inl (fcI g, 6, .inl (F_27 5)) := (M_28).2.2.2.2.2.2.1
        have m_33r6 : ct_25 246 = .inl (fcI g, 36, .inl (F_27 6)) := (M_28).2.2.2.2.2.2.2.1
        have m_33r7 : ct_25 247 = .inl (fcI g, 20, .inl (F_27 7)) := (M_28).2.2.2.2.2.2.2.2.1
        have m_33r8 : ct_25 248 = .inl (fcI g, 20, .inl (F_27 8)) := (M_28).2.2.2.2.2.2.2.2.2
        refine fs_iret E hr hlk hP hS dX8_prove_43 ?_
        rw [nI_cl (show p0 < 1000000 by omega)]
        rw [hhow]
        refine ⟨?_, RFc_t ⟨c_5, c_15⟩ (RFAt.ch hS9 hQ M_28 T_32 (RH.kk (F := uF F_4 0 (upd (F_4 0) (25 + 5 * p0) (nI 1))) hRH5 K_29) (K_29.1.2.trans e5) (K_29.2.2.2.1.trans f52) (K_29.2.2.2.2.1.trans f53) (K_29.2.2.2.2.2.trans f54)), (show fSame 239 249 _ _ from (fSame.tr2 (fSame.ap (fSame.tr2 fSame.rf S_5 (by omega) (by omega)) p_36 (by omega) (by omega)) S_31 (by omega) (by omega)))⟩
        rw [if_pos c_5, if_pos c_15]
    · have c_15 := (fb_0 p_12).mp c_15
      refine lv_bipush (v := (-5)) hx hb dX8_prove_18 (by decide) ?_
      refine fs_iret E hr hlk hP hS dX8_prove_20 ?_
      rw [nI_cl (show p0 < 1000000 by omega)]
      refine ⟨?_, RFc_f (fun z => c_15 z.2) hR, fSame.rf⟩
      rw [if_pos c_5, if_neg c_15]
  · have c_5 := (fb_0 p_2).mp c_5
    refine lv_iconst (v := (-1)) hx hb dX8_prove_8 (by decide) ?_
    refine fs_iret E hr hlk hP hS dX8_prove_9 ?_
    refine ⟨?_, RFc_f (fun z => c_5 z.1) hR, fSame.rf⟩
    rw [if_neg c_5]

set_option maxRecDepth 100000 in
set_option maxHeartbeats 4000000 in
theorem c_X8_doubt (l : Launch) (g : fG) (N : Nat) (ct : Nat → va_E) (σ : Nat → Int32) (k : Nat) (hs : Nat → Nat → Int32) (u1 : Bool) (s1 : Nat → Int32) (u2 : Bool) (s2 : Nat → Int32) (t : Nat → Nat) (len : Nat) (hN : 249 ≤ N) (hG : Good σ) (hR : RFAt g ct σ k hs u1 s1 u2 s2 t len) (x : Int32) : Met l yX8_doubt (wsU yX8_doubt cX8_doubt 2 (some .int)) rX8_doubt (fPre g N ct [.ref (fa g 239), .int x]) (fQi g N (fun r ct1 => r = (if hrx σ x then (if ¬ rk σ x.toNatClampNeg 4 = 0 then nI (Wn (upd σ (25 + 5 * x.toNatClampNeg) (nI (0)))) else -5) else -1) ∧ RFc g ct1 (hrx σ x ∧ ¬ rk σ x.toNatClampNeg 4 = 0) (upd σ (25 + 5 * x.toNatClampNeg) (nI (0))) σ k hs u1 s1 u2 s2 t len ∧ fSame 239 249 ct ct1)) 0 0 (fB g) := by
  refine fs_start (own := RX8) (lv0 := [(0, .ref (fa g 239)), (1, .int x)]) (by decide) rfl (Nat.le_of_ble_eq_true rfl) rfl ?_
  intro p e s m args below meth c ls E hr hlk hnm hP hl hS
  have hx := E.1.1
  have hb := E.1.2.1
  obtain ⟨z, F, hM, hT, hH, hS9, hQ⟩ := id hR
  have m_1o : ct 239 = .inr (8, [.ref (fa g 240), .ref (fa g 241), .int (z 0), .ref (fa g 242), .ref (fa g 243), .ref (fa g 244), .int (z 1), .ref (fa g 245), .int (z 2), .ref (fa g 246), .ref (fa g 247), .ref (fa g 248), .int (z 3), .int (z 4), .int (z 5), .int (z 6), .int (z 7), .int (z 8), .int (z 9)]) := (hM).1
  have m_1r0 : ct 240 = .inl (fcI g, 121, .inl (F 0)) := (hM).2.1
  have m_1r1 : ct 241 = .inl (fcI g, 726, .inl (F 1)) := (hM).2.2.1
  have m_1r2 : ct 242 = .inl (fcI g, 242, .inl (F 2)) := (hM).2.2.2.1
  have m_1r3 : ct 243 = .inl (fcI g, 2, .inl (F 3)) := (hM).2.2.2.2.1
  have m_1r4 : ct 244 = .inl (fcI g, 60, .inl (F 4)) := (hM).2.2.2.2.2.1
  have m_1r5 : ct 245 = .inl (fcI g, 6, .inl (F 5)) := (hM).2.2.2.2.2.2.1
  have m_1r6 : ct 246 = .inl (fcI g, 36, .inl (F 6)) := (hM).2.2.2.2.2.2.2.1
  have m_1r7 : ct 247 = .inl (fcI g, 20, .inl (F 7)) := (hM).2.2.2.2.2.2.2.2.1
  have m_1r8 : ct 248 = .inl (fcI g, 20, .inl (F 8)) := (hM).2.2.2.2.2.2.2.2.2
  have hn3 := hG.n3
  have hn6 := hG.n6
  have hk20 := hG.k
  refine lv_aload_n hx hb dX8_doubt_0 rfl (lv_at hl 0 rfl) ?_
  refine lv_iload_n hx hb dX8_doubt_1 rfl (lv_at hl 1 rfl) ?_
  refine fs_pi (va_runV (As := [.int x]) (rest := []) E.1 (c_X8_isRumour l g N ct z F σ (by omega) hG hM hT x) (lk_RX8_146 E.1.2.2.2.2 ⟨Nat.le_of_ble_eq_true rfl, Nat.le_of_ble_eq_true rfl⟩) (fpreV E hP hS fc8 m_1o (by omega)) rfl rfl hl.1 rfl (lv_room (Nat.le_of_ble_eq_true rfl)) dX8_doubt_2 ⟨Nat.zero_le _, Nat.zero_le _⟩) hS (fun r_2 locs p_2 hS => ?_)
  refine lv_if_ne (tgt := 10) hx hb dX8_doubt_5 (by decide) (fun c_5 => ?_) (fun c_5 => ?_)
  · have c_5 := (fb_1 p_2).mp c_5
    obtain ⟨p0, hp0, rfl⟩ := fex c_5.1 c_5.2
    refine lv_aload_n hx hb dX8_doubt_10 rfl (lv_at hl 0 rfl) ?_
    refine lv_iload_n hx hb dX8_doubt_11 rfl (lv_at hl 1 rfl) ?_
    refine fs_pi (va_runV (As := [.int (nI p0)]) (rest := []) E.1 (c_X8_isOpen l g N ct z F σ (by omega) hG hM hT p0 (by omega)) (lk_RX8_74 E.1.2.2.2.2 ⟨Nat.le_of_ble_eq_true rfl, Nat.le_of_ble_eq_true rfl⟩) (fpreV E hP hS fc8 m_1o (by omega)) rfl rfl hl.1 rfl (lv_room (Nat.le_of_ble_eq_true rfl)) dX8_doubt_12 ⟨Nat.zero_le _, Nat.zero_le _⟩) hS (fun r_12 locs p_12 hS => ?_)
    refine lv_if_eq (tgt := 21) hx hb dX8_doubt_15 (by decide) (fun c_15 => ?_) (fun c_15 => ?_)
    · have c_15 := (fb_0 p_12).mp c_15
      refine lv_aload_n hx hb dX8_doubt_21 rfl (lv_at hl 0 rfl) ?_
      refine fs_v (va_runV (As := []) (rest := []) E.1 (c_X8_record l g N ct z F σ (by omega) hG hM hT k hs hH) (lk_RX8_105 E.1.2.2.2.2 ⟨Nat.le_of_ble_eq_true rfl, Nat.le_of_ble_eq_true rfl⟩) (fpreV E hP hS fc8 m_1o (by omega)) rfl rfl hl.1 rfl (lv_room (Nat.le_of_ble_eq_true rfl)) dX8_doubt_22 ⟨Nat.zero_le _, Nat.zero_le _⟩) hS (fun ct_2 H locs p_22 hP hS => ?_)
      obtain ⟨z_3, F_4, M5, hRH5, e5, f50, f52, f53, f54, S_5⟩ := p_22
      have T_6 : SR σ F_4 := fun i hi => by rw [f50]; exact hT i hi
      have m_7o : ct_2 239 = .inr (8, [.ref (fa g 240), .ref (fa g 241), .int (z_3 0), .ref (fa g 242), .ref (fa g 243), .ref (fa g 244), .int (z_3 1), .ref (fa g 245), .int (z_3 2), .ref (fa g 246), .ref (fa g 247), .ref (fa g 248), .int (z_3 3), .int (z_3 4), .int (z_3 5), .int (z_3 6), .int (z_3 7), .int (z_3 8), .int (z_3 9)]) := (M5).1
      have m_7r0 : ct_2 240 = .inl (fcI g, 121, .inl (F_4 0)) := (M5).2.1
      have m_7r1 : ct_2 241 = .inl (fcI g, 726, .inl (F_4 1)) := (M5).2.2.1
      have m_7r2 : ct_2 242 = .inl (fcI g, 242, .inl (F_4 2)) := (M5).2.2.2.1
      have m_7r3 : ct_2 243 = .inl (fcI g, 2, .inl (F_4 3)) := (M5).2.2.2.2.1
      have m_7r4 : ct_2 244 = .inl (fcI g, 60, .inl (F_4 4)) := (M5).2.2.2.2.2.1
      have m_7r5 : ct_2 245 = .inl (fcI g, 6, .inl (F_4 5)) := (M5).2.2.2.2.2.2.1
      have m_7r6 : ct_2 246 = .inl (fcI g, 36, .inl (F_4 6)) := (M5).2.2.2.2.2.2.2.1
      have m_7r7 : ct_2 247 = .inl (fcI g, 20, .inl (F_4 7)) := (M5).2.2.2.2.2.2.2.2.1
      have m_7r8 : ct_2 248 = .inl (fcI g, 20, .inl (F_4 8)) := (M5).2.2.2.2.2.2.2.2.2
      refine lv_aload_n hx hb dX8_doubt_25 rfl (lv_at hl 0 rfl) ?_
      refine lv_iload_n hx hb dX8_doubt_26 rfl (lv_at hl 1 rfl) ?_
      refine lv_iconst (v := (nI 0)) hx hb dX8_doubt_27 (by decide) ?_
      refine fs_v (va_runV (As := [.int (nI p0), .int (nI 0)]) (rest := []) E.1 (c_X8_setHow l g N ct_2 z_3 F_4 σ (by omega) hG M5 T_6 p0 0 (by omega)) (lk_RX8_149 E.1.2.2.2.2 ⟨Nat.le_of_ble_eq_true rfl, Nat.le_of_ble_eq_true rfl⟩) (fpreV E hP hS fc8 m_7o (by omega)) rfl rfl hl.1 rfl (lv_room (Nat.le_of_ble_eq_true rfl)) dX8_doubt_28 ⟨Nat.zero_le _, Nat.zero_le _⟩) hS (fun ct_8 H locs p_28 hP hS => ?_)
      have M_9 := MA.f0 M5 p_28
      have m_11o : ct_8 239 = .inr (8, [.ref (fa g 240), .ref (fa g 241), .int (z_3 0), .ref (fa g 242), .ref (fa g 243), .ref (fa g 244), .int (z_3 1), .ref (fa g 245), .int (z_3 2), .ref (fa g 246), .ref (fa g 247), .ref (fa g 248), .int (z_3 3), .int (z_3 4), .int (z_3 5), .int (z_3 6), .int (z_3 7), .int (z_3 8), .int (z_3 9)]) := (M_9).1
      have m_11r0 : ct_8 240 = .inl (fcI g, 121, .inl (upd (F_4 0) (25 + 5 * p0) (nI 0))) := (M_9).2.1
      have m_11r1 : ct_8 241 = .inl (fcI g, 726, .inl (F_4 1)) := (M_9).2.2.1
      have m_11r2 : ct_8 242 = .inl (fcI g, 242, .inl (F_4 2)) := (M_9).2.2.2.1
      have m_11r3 : ct_8 243 = .inl (fcI g, 2, .inl (F_4 3)) := (M_9).2.2.2.2.1
      have m_11r4 : ct_8 244 = .inl (fcI g, 60, .inl (F_4 4)) := (M_9).2.2.2.2.2.1
      have m_11r5 : ct_8 245 = .inl (fcI g, 6, .inl (F_4 5)) := (M_9).2.2.2.2.2.2.1
      have m_11r6 : ct_8 246 = .inl (fcI g, 36, .inl (F_4 6)) := (M_9).2.2.2.2.2.2.2.1
      have m_11r7 : ct_8 247 = .inl (fcI g, 20, .inl (F_4 7)) := (M_9).2.2.2.2.2.2.2.2.1
      have m_11r8 : ct_8 248 = .inl (fcI g, 20, .inl (F_4 8)) := (M_9).2.2.2.2.2.2.2.2.2
      have T7 : SR (upd σ (25 + 5 * p0) (nI 0)) (uF F_4 0 (upd (F_4 0) (25 + 5 * p0) (nI 0))) := fun i hi => upd_cg (T_6 i hi)
      refine lv_aload_n hx hb dX8_doubt_31 rfl (lv_at hl 0 rfl) ?_
      refine fs_i (va_runV (As := []) (rest := []) E.1 (c_X8_worldsNow l g N ct_8 z_3 (uF F_4 0 (upd (F_4 0) (25 + 5 * p0) (nI 0))) (upd σ (25 + 5 * p0) (nI 0)) (by omega) (Good_how hG (by omega)) M_9 T7) (lk_RX8_153 E.1.2.2.2.2 ⟨Nat.le_of_ble_eq_true rfl, Nat.le_of_ble_eq_true rfl⟩) (fpreV E hP hS fc8 m_11o (by omega)) rfl rfl hl.1 rfl (lv_room (Nat.le_of_ble_eq_true rfl)) dX8_doubt_32 ⟨Nat.zero_le _, Nat.zero_le _⟩) hS (fun r_32 ct_12 H locs p_32 hP hS => ?_)
      refine fs_vi (y := (nI (Wn (upd σ (25 + 5 * p0) (nI 0))))) p_32.1 ?_
      obtain ⟨z_13, F_14, M_15, K_16, C_17, S_18⟩ := p_32.2
      have T_19 := KK.sr K_16 T7
      have m_20o : ct_12 239 = .inr (8, [.ref (fa g 240), .ref (fa g 241), .int (z_13 0), .ref (fa g 242), .ref (fa g 243), .ref (fa g 244), .int (z_13 1), .ref (fa g 245), .int (z_13 2), .ref (fa g 246), .ref (fa g 247), .ref (fa g 248), .int (z_13 3), .int (z_13 4), .int (z_13 5), .int (z_13 6), .int (z_13 7), .int (z_13 8), .int (z_13 9)]) := (M_15).1
      have m_20r0 : ct_12 240 = .inl (fcI g, 121, .inl (F_14 0)) := (M_15).2.1
      have m_20r1 : ct_12 241 = .inl (fcI g, 726, .inl (F_14 1)) := (M_15).2.2.1
      have m_20r2 : ct_12 242 = .inl (fcI g, 242, .inl (F_14 2)) := (M_15).2.2.2.1
      have m_20r3 : ct_12 243 = .inl (fcI g, 2, .inl (F_14 3)) := (M_15).2.2.2.2.1
      have m_20r4 : ct_12 244 = .inl (fcI g, 60, .inl (F_14 4)) := (M_15).2.2.2.2.2.1
      have m_20r5 : ct_12 245 = .inl (fcI g, 6, .inl (F_14 5)) := (M_15).2.2.2.2.2.2.1
      have m_20r6 : ct_12 246 = .inl (fcI g, 36, .inl (F_14 6)) := (M_15).2.2.2.2.2.2.2.1
      have m_20r7 : ct_12 247 = .inl (fcI g, 20, .inl (F_14 7)) := (M_15).2.2.2.2.2.2.2.2.1
      have m_20r8 : ct_12 248 = .inl (fcI g, 20, .inl (F_14 8)) := (M_15).2.2.2.2.2.2.2.2.2
      refine fs_iret E hr hlk hP hS dX8_doubt_35 ?_
      rw [nI_cl (show p0 < 1000000 by omega)]
      refine ⟨?_, RFc_t ⟨c_5, c_15⟩ (RFAt.ch hS9 hQ M_15 T_19 (RH.kk (F := uF F_4 0 (upd (F_4 0) (25 + 5 * p0) (nI 0))) hRH5 K_16) (K_16.1.2.trans e5) (K_16.2.2.2.1.trans f52) (K_16.2.2.2.2.1.trans f53) (K_16.2.2.2.2.2.trans f54)), (show fSame 239 249 _ _ from (fSame.tr2 (fSame.ap (fSame.tr2 fSame.rf S_5 (by omega) (by omega)) p_28 (by omega) (by omega)) S_18 (by omega) (by omega)))⟩
      rw [if_pos c_5, if_pos c_15]
    · have c_15 := (fb_1 p_12).mp c_15
      refine lv_bipush (v := (-5)) hx hb dX8_doubt_18 (by decide) ?_
      refine fs_iret E hr hlk hP hS dX8_doubt_20 ?_
      rw [nI_cl (show p0 < 1000000 by omega)]
      refine ⟨?_, RFc_f (fun z => z.2 c_15) hR, fSame.rf⟩
      rw [if_pos c_5, if_neg (fun z => z c_15)]
  · have c_5 := (fb_0 p_2).mp c_5
    refine lv_iconst (v := (-1)) hx hb dX8_doubt_8 (by decide) ?_
    refine fs_iret E hr hlk hP hS dX8_doubt_9 ?_
    refine ⟨?_, RFc_f (fun z => c_5 z.1) hR, fSame.rf⟩
    rw [if_neg c_5]

set_option maxRecDepth 100000 in
set_option maxHeartbeats 4000000 in
theorem c_X8_undo (l : Launch) (g : fG) (N : Nat) (ct : Nat → va_E) (σ : Nat → Int32) (k : Nat) (hs : Nat → Nat → Int32) (u1 : Bool) (s1 : Nat → Int32) (u2 : Bool) (s2 : Nat → Int32) (t : Nat → Nat) (len : Nat) (hN : 249 ≤ N) (hG : Good σ) (hR : RFAt g ct σ k hs u1 s1 u2 s2 t len) : Met l yX8_undo (wsU yX8_undo cX8_undo 1 (some .int)) rX8_undo (fPre g N ct [.ref (fa g 239)]) (fQi g N (fun r ct1 => r = (if k = 0 then -5 else nI (k - 1)) ∧ RFAt g ct1 (if k = 0 then σ else hs 0) (k - 1) (if k = 0 then hs else fun i => hs (i + 1)) u1 s1 u2 s2 t len ∧ fSame 239 249 ct ct1)) 0 0 (fB g) := by
  refine fs_start (own := RX8) (lv0 := [(0, .ref (fa g 239))]) (by decide) rfl (Nat.le_of_ble_eq_true rfl) rfl ?_
  intro p e s m args below meth c ls E hr hlk hnm hP hl hS
  have hx := E.1.1
  have hb := E.1.2.1
  obtain ⟨z, F, hM, hT, hH, hS9, hQ⟩ := id hR
  have m_1o : ct 239 = .inr (8, [.ref (fa g 240), .ref (fa g 241), .int (z 0), .ref (fa g 242), .ref (fa g 243), .ref (fa g 244), .int (z 1), .ref (fa g 245), .int (z 2), .ref (fa g 246), .ref (fa g 247), .ref (fa g 248), .int (z 3), .int (z 4), .int (z 5), .int (z 6), .int (z 7), .int (z 8), .int (z 9)]) := (hM).1
  have m_1r0 : ct 240 = .inl (fcI g, 121, .inl (F 0)) := (hM).2.1
  have m_1r1 : ct 241 = .inl (fcI g, 726, .inl (F 1)) := (hM).2.2.1
  have m_1r2 : ct 242 = .inl (fcI g, 242, .inl (F 2)) := (hM).2.2.2.1
  have m_1r3 : ct 243 = .inl (fcI g, 2, .inl (F 3)) := (hM).2.2.2.2.1
  have m_1r4 : ct 244 = .inl (fcI g, 60, .inl (F 4)) := (hM).2.2.2.2.2.1
  have m_1r5 : ct 245 = .inl (fcI g, 6, .inl (F 5)) := (hM).2.2.2.2.2.2.1
  have m_1r6 : ct 246 = .inl (fcI g, 36, .inl (F 6)) := (hM).2.2.2.2.2.2.2.1
  have m_1r7 : ct 247 = .inl (fcI g, 20, .inl (F 7)) := (hM).2.2.2.2.2.2.2.2.1
  have m_1r8 : ct 248 = .inl (fcI g, 20, .inl (F 8)) := (hM).2.2.2.2.2.2.2.2.2
  have hn3 := hG.n3
  have hn6 := hG.n6
  have hk20 := hG.k
  have hk6 := hH.2.1
  refine lv_aload_n hx hb dX8_undo_0 rfl (lv_at hl 0 rfl) ?_
  refine fs_get E hP (k := 239) (v := .int (z 0)) 2 fc8 m_1o (by omega) (by decide) (wm wl_7 (i := 22) rfl) rfl dX8_undo_1 ?_
  refine fs_vi (y := nI k) hH.1 ?_
  refine lv_if_ne (tgt := 10) hx hb dX8_undo_4 (by decide) (fun c_4 => ?_) (fun c_4 => ?_)
  · rw [fz_eqN (by omega)] at c_4
    refine lv_aload_n hx hb dX8_undo_10 rfl (lv_at hl 0 rfl) ?_
    refine lv_dup hx hb dX8_undo_11 rfl ?_
    refine fs_get E hP (k := 239) (v := .int (z 0)) 2 fc8 m_1o (by omega) (by decide) (wm wl_7 (i := 22) rfl) rfl dX8_undo_12 ?_
    refine fs_vi (y := nI k) hH.1 ?_
    refine lv_iconst (v := (nI 1)) hx hb dX8_undo_15 (by decide) ?_
    refine lv_isub hx hb dX8_undo_16 ?_
    refine fs_vi (y := (nI (k - 1))) (pk_sub (by omega)) ?_
    refine fs_put E hP hS (k := 239) 2 fc8 m_1o (by omega) (by decide) (wm wl_7 (i := 22) rfl) rfl rfl rfl rfl (Nat.le_of_ble_eq_true rfl) dX8_undo_17 (fun ct_2 H locs q_3 hP hS => ?_)
    have h_4 : ct_2 239 = .inr (8, [.ref (fa g 240), .ref (fa g 241), .int (nI (k - 1)), .ref (fa g 242), .ref (fa g 243), .ref (fa g 244), .int (z 1), .ref (fa g 245), .int (z 2), .ref (fa g 246), .ref (fa g 247), .ref (fa g 248), .int (z 3), .int (z 4), .int (z 5), .int (z 6), .int (z 7), .int (z 8), .int (z 9)]) := by rw [q_3]; exact fu_eq _ _ _
    have h_5 : ct_2 240 = .inl (fcI g, 121, .inl (F 0)) := by rw [q_3]; exact (fu_ne (by omega)).trans m_1r0
    have h_6 : ct_2 241 = .inl (fcI g, 726, .inl (F 1)) := by rw [q_3]; exact (fu_ne (by omega)).trans m_1r1
    have h_7 : ct_2 242 = .inl (fcI g, 242, .inl (F 2)) := by rw [q_3]; exact (fu_ne (by omega)).trans m_1r2
    have h_8 : ct_2 243 = .inl (fcI g, 2, .inl (F 3)) := by rw [q_3]; exact (fu_ne (by omega)).trans m_1r3
    have h_9 : ct_2 244 = .inl (fcI g, 60, .inl (F 4)) := by rw [q_3]; exact (fu_ne (by omega)).trans m_1r4
    have h_10 : ct_2 245 = .inl (fcI g, 6, .inl (F 5)) := by rw [q_3]; exact (fu_ne (by omega)).trans m_1r5
    have h_11 : ct_2 246 = .inl (fcI g, 36, .inl (F 6)) := by rw [q_3]; exact (fu_ne (by omega)).trans m_1r6
    have h_12 : ct_2 247 = .inl (fcI g, 20, .inl (F 7)) := by rw [q_3]; exact (fu_ne (by omega)).trans m_1r7
    have h_13 : ct_2 248 = .inl (fcI g, 20, .inl (F 8)) := by rw [q_3]; exact (fu_ne (by omega)).trans m_1r8
    refine lv_aload_n hx hb dX8_undo_20 rfl (lv_at hl 0 rfl) ?_
    refine fs_get E hP (k := 239) (v := .ref (fa g 241)) 1 fc8 h_4 (by omega) (by decide) (wm wl_5 (i := 1) rfl) rfl dX8_undo_21 ?_
    refine lv_aload_n hx hb dX8_undo_24 rfl (lv_at hl 0 rfl) ?_
    refine fs_get E hP (k := 239) (v := .int (nI (k - 1))) 2 fc8 h_4 (by omega) (by decide) (wm wl_7 (i := 22) rfl) rfl dX8_undo_25 ?_
    refine lv_bipush (v := (nI 121)) hx hb dX8_undo_28 (by decide) ?_
    refine lv_imul hx hb dX8_undo_30 ?_
    refine fs_vi (y := (nI (121 * (k - 1)))) ((pk_mul _ _).trans (congrArg nI (Nat.mul_comm _ _))) ?_
    refine lv_aload_n hx hb dX8_undo_31 rfl (lv_at hl 0 rfl) ?_
    refine fs_get E hP (k := 239) (v := .ref (fa g 240)) 0 fc8 h_4 (by omega) (by decide) (wm wl_5 (i := 0) rfl) rfl dX8_undo_32 ?_
    refine lv_iconst (v := (nI 0)) hx hb dX8_undo_35 (by decide) ?_
    refine fs_v (va_runS (As := [.ref (fa g 241), .int (nI (121 * (k - 1))), .ref (fa g 240), .int (nI 0)]) (rest := []) E.1 (c_X8_moves l g N ct_2 241 240 726 121 (121 * (k - 1)) 0 (F 1) (F 0) (by omega) (by omega) (by omega) (by omega) (by omega) (by omega) (by omega) h_6 h_5) (lk_RX8_45 E.1.2.2.2.2 ⟨Nat.le_of_ble_eq_true rfl, Nat.le_of_ble_eq_true rfl⟩) (fpreS E hP hS) rfl rfl hl.1 rfl (lv_room (Nat.le_of_ble_eq_true rfl)) dX8_undo_36 ⟨Nat.zero_le _, Nat.zero_le _⟩) hS (fun ct_14 H locs p_36 hP hS => ?_)
    have h_15 : ct_14 239 = .inr (8, [.ref (fa g 240), .ref (fa g 241), .int (nI (k - 1)), .ref (fa g 242), .ref (fa g 243), .ref (fa g 244), .int (z 1), .ref (fa g 245), .int (z 2), .ref (fa g 246), .ref (fa g 247), .ref (fa g 248), .int (z 3), .int (z 4), .int (z 5), .int (z 6), .int (z 7), .int (z 8), .int (z 9)]) := by rw [p_36]; exact (fu_ne (by omega)).trans h_4
    have h_16 : ct_14 240 = .inl (fcI g, 121, .inl (mvF (F 1) (F 0) (121 * (k - 1)) 0 121)) := by rw [p_36]; exact fu_eq _ _ _
    have h_17 : ct_14 241 = .inl (fcI g, 726, .inl (F 1)) := by rw [p_36]; exact (fu_ne (by omega)).trans h_6
    have h_18 : ct_14 242 = .inl (fcI g, 242, .inl (F 2)) := by rw [p_36]; exact (fu_ne (by omega)).trans h_7
    have h_19 : ct_14 243 = .inl (fcI g, 2, .inl (F 3)) := by rw [p_36]; exact (fu_ne (by omega)).trans h_8
    have h_20 : ct_14 244 = .inl (fcI g, 60, .inl (F 4)) := by rw [p_36]; exact (fu_ne (by omega)).trans h_9
    have h_21 : ct_14 245 = .inl (fcI g, 6, .inl (F 5)) := by rw [p_36]; exact (fu_ne (by omega)).trans h_10
    have h_22 : ct_14 246 = .inl (fcI g, 36, .inl (F 6)) := by rw [p_36]; exact (fu_ne (by omega)).trans h_11
    have h_23 : ct_14 247 = .inl (fcI g, 20, .inl (F 7)) := by rw [p_36]; exact (fu_ne (by omega)).trans h_12
    have h_24 : ct_14 248 = .inl (fcI g, 20, .inl (F 8)) := by rw [p_36]; exact (fu_ne (by omega)).trans h_13
    refine lv_aload_n hx hb dX8_undo_39 rfl (lv_at hl 0 rfl) ?_
    refine fs_get E hP (k := 239) (v := .int (nI (k - 1))) 2 fc8 h_15 (by omega) (by decide) (wm wl_7 (i := 22) rfl) rfl dX8_undo_40 ?_
    have MA8 : MA g ct_14 (mkz (nI (k - 1)) (z 1) (z 2) (z 3) (z 4) (z 5) (z 6) (z 7) (z 8) (z 9)) (mkF (mvF (F 1) (F 0) (121 * (k - 1)) 0 121) (F 1) (F 2) (F 3) (F 4) (F 5) (F 6) (F 7) (F 8)) := ⟨h_15, h_16, h_17, h_18, h_19, h_20, h_21, h_22, h_23, h_24⟩
    have hr8 : ∀ j, j < 121 → mvF (F 1) (F 0) (121 * (k - 1)) 0 121 j = hs 0 j := fun j hj => by
      have e1 := mvF_in (fa := F 1) (fb := F 0) (p := 121 * (k - 1)) (q := 0) hj
      rw [Nat.zero_add] at e1
      rw [e1]; exact hH.2.2 0 j (by omega) hj
    have hh8 : RH (k - 1) (fun i => hs (i + 1)) (mkz (nI (k - 1)) (z 1) (z 2) (z 3) (z 4) (z 5) (z 6) (z 7) (z 8) (z 9)) (mkF (mvF (F 1) (F 0) (121 * (k - 1)) 0 121) (F 1) (F 2) (F 3) (F 4) (F 5) (F 6) (F 7) (F 8)) := ⟨rfl, by omega, fun i j hi hj => by
      have e1 := hH.2.2 (i + 1) j (by omega) hj
      rw [show k - 1 - (i + 1) = k - 1 - 1 - i by omega] at e1; exact e1⟩
    refine fs_iret E hr hlk hP hS dX8_undo_43 ?_
    refine ⟨(if_neg c_4).symm, ?_, (show fSame 239 249 _ _ from (fSame.ap (fSame.ap fSame.rf q_3 (by omega) (by omega)) p_36 (by omega) (by omega)))⟩
    rw [if_neg c_4, if_neg c_4]
    exact RFAt.ch hS9 hQ MA8 hr8 hh8 rfl rfl rfl rfl
  · rw [fz_eqN (by omega)] at c_4
    refine lv_bipush (v := (-5)) hx hb dX8_undo_7 (by decide) ?_
    refine fs_iret E hr hlk hP hS dX8_undo_9 ?_
    refine ⟨(if_pos c_4).symm, ?_, fSame.rf⟩
    rw [if_pos c_4, if_pos c_4, show k - 1 = k by omega]; exact hR
