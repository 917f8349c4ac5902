theorem rd_not {t : Nat → Nat} {len a b : Nat} (hcs : ∀ i, i < len → csa t i = true) (h : a + 5 ≤ len) : ¬ RdNo t len a b := fun A => by
  have h1 := A.1
  have h2 := A.2.2.2 (by omega)
  rw [hcs b (by omega)] at h2; cases h2
theorem pd_end {t : Nat → Nat} {len j : Nat} (hcs : ∀ i, i < len → csa t i = true) (h : j < (len + 1) / 6) (A : ¬ (6 * j + 5 < len ∧ t (6 * j + 5) = 44)) : min (6 * (j + 1)) len = 6 * j + 5 := by
  by_cases y : 6 * j + 5 < len
  · exact absurd ⟨y, (ra5 (a := 6 * j) (by omega)).mp (hcs _ y)⟩ A
  · omega
theorem hb_y {σ : Nat → Int32} {a : Nat} (h : a < 1000) (z : a < nB σ) : hbx σ (nI a) := by unfold hbx; rw [nI_toInt (by omega)]; omega
theorem hb_n {σ : Nat → Int32} {a : Nat} (h : a < 1000) (z : hbx σ (nI a)) : a < nB σ := by unfold hbx at z; rw [nI_toInt (by omega)] at z; omega
set_option maxRecDepth 100000 in
set_option maxHeartbeats 4000000 in
theorem c_X8_findFault (l : Launch) (g : fG) (N : Nat) (ct : Nat → va_E) (z : Nat → Int32) (F : Nat → Nat → Int32) (t : Nat → Nat) (len : Nat) (hN : 249 ≤ N) (hM : MA g ct z F) (hQ : RP t len z F) (h128 : ∀ i, i < len → t i < 128) : Met l yX8_findFault (wsU yX8_findFault cX8_findFault 1 (some .int)) rX8_findFault (fPre g N ct [.ref (fa g 239)]) (fQi g N (fun r ct1 => r = ffF t len ∧ ∃ (y5 y6 y7 y8 y9 : Int32), MA g ct1 (mkz (z 0) (z 1) (z 2) (z 3) (z 4) y5 y6 y7 y8 y9) F ∧ fSame 239 249 ct ct1)) 0 0 (fB g) := by
  refine fs_start (own := RX8) (lv0 := [(0, .ref (fa g 239))]) (by decide) rfl (Nat.le_of_ble_eq_true rfl) rfl ?_
  intro p e s m args below meth c ls E hr hlk hnm hP hl hS
  have hx := E.1.1
  have hb := E.1.2.1
  have m_1o : ct 239 = .inr (8, [.ref (fa g 240), .ref (fa g 241), .int (z 0), .ref (fa g 242), .ref (fa g 243), .ref (fa g 244), .int (z 1), .ref (fa g 245), .int (z 2), .ref (fa g 246), .ref (fa g 247), .ref (fa g 248), .int (z 3), .int (z 4), .int (z 5), .int (z 6), .int (z 7), .int (z 8), .int (z 9)]) := (hM).1
  have m_1r0 : ct 240 = .inl (fcI g, 121, .inl (F 0)) := (hM).2.1
  have m_1r1 : ct 241 = .inl (fcI g, 726, .inl (F 1)) := (hM).2.2.1
  have m_1r2 : ct 242 = .inl (fcI g, 242, .inl (F 2)) := (hM).2.2.2.1
  have m_1r3 : ct 243 = .inl (fcI g, 2, .inl (F 3)) := (hM).2.2.2.2.1
  have m_1r4 : ct 244 = .inl (fcI g, 60, .inl (F 4)) := (hM).2.2.2.2.2.1
  have m_1r5 : ct 245 = .inl (fcI g, 6, .inl (F 5)) := (hM).2.2.2.2.2.2.1
  have m_1r6 : ct 246 = .inl (fcI g, 36, .inl (F 6)) := (hM).2.2.2.2.2.2.2.1
  have m_1r7 : ct 247 = .inl (fcI g, 20, .inl (F 7)) := (hM).2.2.2.2.2.2.2.2.1
  have m_1r8 : ct 248 = .inl (fcI g, 20, .inl (F 8)) := (hM).2.2.2.2.2.2.2.2.2
  have hl60 := hQ.2.1
  refine lv_aload_n hx hb dX8_findFault_0 rfl (lv_at hl 0 rfl) ?_
  refine lv_iconst (v := (nI 0)) hx hb dX8_findFault_1 (by decide) ?_
  refine fs_put E hP hS (k := 239) 14 fc8 m_1o (by omega) (by decide) (wm wl_16 (i := 12) rfl) rfl rfl rfl rfl (Nat.le_of_ble_eq_true rfl) dX8_findFault_2 (fun ct_2 H locs q_3 hP hS => ?_)
  have h_4 : ct_2 239 = .inr (8, [.ref (fa g 240), .ref (fa g 241), .int (z 0), .ref (fa g 242), .ref (fa g 243), .ref (fa g 244), .int (z 1), .ref (fa g 245), .int (z 2), .ref (fa g 246), .ref (fa g 247), .ref (fa g 248), .int (z 3), .int (z 4), .int (nI 0), .int (z 6), .int (z 7), .int (z 8), .int (z 9)]) := by rw [q_3]; exact fu_eq _ _ _
  have h_5 : ct_2 240 = .inl (fcI g, 121, .inl (F 0)) := by rw [q_3]; exact (fu_ne (by omega)).trans m_1r0
  have h_6 : ct_2 241 = .inl (fcI g, 726, .inl (F 1)) := by rw [q_3]; exact (fu_ne (by omega)).trans m_1r1
  have h_7 : ct_2 242 = .inl (fcI g, 242, .inl (F 2)) := by rw [q_3]; exact (fu_ne (by omega)).trans m_1r2
  have h_8 : ct_2 243 = .inl (fcI g, 2, .inl (F 3)) := by rw [q_3]; exact (fu_ne (by omega)).trans m_1r3
  have h_9 : ct_2 244 = .inl (fcI g, 60, .inl (F 4)) := by rw [q_3]; exact (fu_ne (by omega)).trans m_1r4
  have h_10 : ct_2 245 = .inl (fcI g, 6, .inl (F 5)) := by rw [q_3]; exact (fu_ne (by omega)).trans m_1r5
  have h_11 : ct_2 246 = .inl (fcI g, 36, .inl (F 6)) := by rw [q_3]; exact (fu_ne (by omega)).trans m_1r6
  have h_12 : ct_2 247 = .inl (fcI g, 20, .inl (F 7)) := by rw [q_3]; exact (fu_ne (by omega)).trans m_1r7
  have h_13 : ct_2 248 = .inl (fcI g, 20, .inl (F 8)) := by rw [q_3]; exact (fu_ne (by omega)).trans m_1r8
  have MB_14 : MA g ct_2 (mkz (z 0) (z 1) (z 2) (z 3) (z 4) (nI 0) (z 6) (z 7) (z 8) (z 9)) F := ⟨h_4, h_5, h_6, h_7, h_8, h_9, h_10, h_11, h_12, h_13⟩
  refine fs_ind (g := g) (N := N) (St := Nat) (fun (j : Nat) (ct_15 : Nat → va_E) (ls : Array Slot) => lv_has ls 1 [(0, .ref (fa g 239))] ∧ ∃ (y6 y7 y8 y9 : Int32), MA g ct_15 (mkz (z 0) (z 1) (z 2) (z 3) (z 4) (nI (6 * j)) y6 y7 y8 y9) F ∧ (6 * j ≤ len ∧ ∀ i, i < 6 * j → csa t i = true) ∧ fSame 239 249 ct ct_15) (fun j => len - 6 * j) ?_ 0 _ _ ls _ ⟨lv_sub hl [0] rfl, ⟨_, _, _, _, MB_14, ⟨Nat.zero_le _, fun i hi => absurd hi (by omega)⟩, (show fSame 239 249 _ _ from (fSame.ap fSame.rf q_3 (by omega) (by omega)))⟩⟩ hP hS
  clear hl hP hS
  intro st ct_15 H ls locs hI hP hS ih
  obtain ⟨j, rfl⟩ : ∃ z, z = st := ⟨_, rfl⟩
  obtain ⟨hl, y6, y7, y8, y9, hM1, hI, hsm⟩ := hI
  have m_16o : ct_15 239 = .inr (8, [.ref (fa g 240), .ref (fa g 241), .int (z 0), .ref (fa g 242), .ref (fa g 243), .ref (fa g 244), .int (z 1), .ref (fa g 245), .int (z 2), .ref (fa g 246), .ref (fa g 247), .ref (fa g 248), .int (z 3), .int (z 4), .int (nI (6 * j)), .int y6, .int y7, .int y8, .int y9]) := (hM1).1
  have m_16r0 : ct_15 240 = .inl (fcI g, 121, .inl (F 0)) := (hM1).2.1
  have m_16r1 : ct_15 241 = .inl (fcI g, 726, .inl (F 1)) := (hM1).2.2.1
  have m_16r2 : ct_15 242 = .inl (fcI g, 242, .inl (F 2)) := (hM1).2.2.2.1
  have m_16r3 : ct_15 243 = .inl (fcI g, 2, .inl (F 3)) := (hM1).2.2.2.2.1
  have m_16r4 : ct_15 244 = .inl (fcI g, 60, .inl (F 4)) := (hM1).2.2.2.2.2.1
  have m_16r5 : ct_15 245 = .inl (fcI g, 6, .inl (F 5)) := (hM1).2.2.2.2.2.2.1
  have m_16r6 : ct_15 246 = .inl (fcI g, 36, .inl (F 6)) := (hM1).2.2.2.2.2.2.2.1
  have m_16r7 : ct_15 247 = .inl (fcI g, 20, .inl (F 7)) := (hM1).2.2.2.2.2.2.2.2.1
  have m_16r8 : ct_15 248 = .inl (fcI g, 20, .inl (F 8)) := (hM1).2.2.2.2.2.2.2.2.2
  have hI1 := hI.1
  refine lv_aload_n hx hb dX8_findFault_5 rfl (lv_at hl 0 rfl) ?_
  have MB_17 : MA g ct_15 (mkz (z 0) (z 1) (z 2) (z 3) (z 4) (nI (6 * j)) y6 y7 y8 y9) F := ⟨m_16o, m_16r0, m_16r1, m_16r2, m_16r3, m_16r4, m_16r5, m_16r6, m_16r7, m_16r8⟩
  refine fs_i (va_runV (As := []) (rest := []) E.1 (c_X8_readsRumour l g N ct_15 z F t len (6 * j) y6 y7 y8 y9 (by omega) MB_17 hQ h128 (by omega) (by omega)) (lk_RX8_121 E.1.2.2.2.2 ⟨Nat.le_of_ble_eq_true rfl, Nat.le_of_ble_eq_true rfl⟩) (fpreV E hP hS fc8 m_16o (by omega)) rfl rfl hl.1 rfl (lv_room (Nat.le_of_ble_eq_true rfl)) dX8_findFault_6 ⟨Nat.zero_le _, Nat.zero_le _⟩) hS (fun r_6 ct_18 H locs p_6 hP hS => ?_)
  obtain ⟨u_6, s_6⟩ := p_6
  rcases u_6 with ⟨A_6, e_6, M_6⟩ | ⟨b_6, w6, w7, w8, w9, A_6, e_6, M_6⟩
  · have m_19o : ct_18 239 = .inr (8, [.ref (fa g 240), .ref (fa g 241), .int (z 0), .ref (fa g 242), .ref (fa g 243), .ref (fa g 244), .int (z 1), .ref (fa g 245), .int (z 2), .ref (fa g 246), .ref (fa g 247), .ref (fa g 248), .int (z 3), .int (z 4), .int (nI (6 * j + 5)), .int (nI (t (6 * j) - 48)), .int (nI (kdn (t ((6 * j) + 3)))), .int (nI (t ((6 * j) + 2) - 48)), .int (nI (t ((6 * j) + 4) - 48))]) := (M_6).1
    have m_19r0 : ct_18 240 = .inl (fcI g, 121, .inl (F 0)) := (M_6).2.1
    have m_19r1 : ct_18 241 = .inl (fcI g, 726, .inl (F 1)) := (M_6).2.2.1
    have m_19r2 : ct_18 242 = .inl (fcI g, 242, .inl (F 2)) := (M_6).2.2.2.1
    have m_19r3 : ct_18 243 = .inl (fcI g, 2, .inl (F 3)) := (M_6).2.2.2.2.1
    have m_19r4 : ct_18 244 = .inl (fcI g, 60, .inl (F 4)) := (M_6).2.2.2.2.2.1
    have m_19r5 : ct_18 245 = .inl (fcI g, 6, .inl (F 5)) := (M_6).2.2.2.2.2.2.1
    have m_19r6 : ct_18 246 = .inl (fcI g, 36, .inl (F 6)) := (M_6).2.2.2.2.2.2.2.1
    have m_19r7 : ct_18 247 = .inl (fcI g, 20, .inl (F 7)) := (M_6).2.2.2.2.2.2.2.2.1
    have m_19r8 : ct_18 248 = .inl (fcI g, 20, .inl (F 8)) := (M_6).2.2.2.2.2.2.2.2.2
    refine fs_vi (y := (nI 1)) e_6 ?_
    refine lv_if_ne (tgt := 17) hx hb dX8_findFault_9 (by decide) (fun c_9 => ?_) (fun c_9 => ?_)
    rotate_left
    · exact absurd c_9 (by decide)
    refine lv_aload_n hx hb dX8_findFault_17 rfl (lv_at hl 0 rfl) ?_
    refine fs_get E hP (k := 239) (v := .int (nI (6 * j + 5))) 14 fc8 m_19o (by omega) (by decide) (wm wl_16 (i := 12) rfl) rfl dX8_findFault_18 ?_
    refine lv_aload_n hx hb dX8_findFault_21 rfl (lv_at hl 0 rfl) ?_
    refine fs_get E hP (k := 239) (v := .int (z 1)) 6 fc8 m_19o (by omega) (by decide) (wm wl_16 (i := 13) rfl) rfl dX8_findFault_22 ?_
    refine fs_vi (y := nI len) hQ.1 ?_
    refine lv_icmp_ne (tgt := 31) hx hb dX8_findFault_25 (by decide) (fun c_25 => ?_) (fun c_25 => ?_)
    · rw [nI_eq (by omega) (by omega)] at c_25
      refine lv_aload_n hx hb dX8_findFault_31 rfl (lv_at hl 0 rfl) ?_
      refine lv_bipush (v := (nI 44)) hx hb dX8_findFault_32 (by decide) ?_
      have MB_20 : MA g ct_18 (mkz (z 0) (z 1) (z 2) (z 3) (z 4) (nI (6 * j + 5)) (nI (t (6 * j) - 48)) (nI (kdn (t ((6 * j) + 3)))) (nI (t ((6 * j) + 2) - 48)) (nI (t ((6 * j) + 4) - 48))) F := ⟨m_19o, m_19r0, m_19r1, m_19r2, m_19r3, m_19r4, m_19r5, m_19r6, m_19r7, m_19r8⟩
      refine fs_i (va_runV (As := [.int (nI 44)]) (rest := []) E.1 (c_X8_isNext l g N ct_18 z F t len (6 * j + 5) (nI (t (6 * j) - 48)) (nI (kdn (t ((6 * j) + 3)))) (nI (t ((6 * j) + 2) - 48)) (nI (t ((6 * j) + 4) - 48)) (by omega) MB_20 hQ h128 (by omega) 44 (by omega)) (lk_RX8_125 E.1.2.2.2.2 ⟨Nat.le_of_ble_eq_true rfl, Nat.le_of_ble_eq_true rfl⟩) (fpreV E hP hS fc8 m_19o (by omega)) rfl rfl hl.1 rfl (lv_room (Nat.le_of_ble_eq_true rfl)) dX8_findFault_34 ⟨Nat.zero_le _, Nat.zero_le _⟩) hS (fun r_34 ct_21 H locs p_34 hP hS => ?_)
      obtain ⟨u_34, s_34⟩ := p_34
      rcases u_34 with ⟨A_34, e_34, M_34⟩ | ⟨A_34, e_34, M_34⟩
      · have m_22o : ct_21 239 = .inr (8, [.ref (fa g 240), .ref (fa g 241), .int (z 0), .ref (fa g 242), .ref (fa g 243), .ref (fa g 244), .int (z 1), .ref (fa g 245), .int (z 2), .ref (fa g 246), .ref (fa g 247), .ref (fa g 248), .int (z 3), .int (z 4), .int (nI (6 * j + 6)), .int (nI (t (6 * j) - 48)), .int (nI (kdn (t ((6 * j) + 3)))), .int (nI (t ((6 * j) + 2) - 48)), .int (nI (t ((6 * j) + 4) - 48))]) := (M_34).1
        have m_22r0 : ct_21 240 = .inl (fcI g, 121, .inl (F 0)) := (M_34).2.1
        have m_22r1 : ct_21 241 = .inl (fcI g, 726, .inl (F 1)) := (M_34).2.2.1
        have m_22r2 : ct_21 242 = .inl (fcI g, 242, .inl (F 2)) := (M_34).2.2.2.1
        have m_22r3 : ct_21 243 = .inl (fcI g, 2, .inl (F 3)) := (M_34).2.2.2.2.1
        have m_22r4 : ct_21 244 = .inl (fcI g, 60, .inl (F 4)) := (M_34).2.2.2.2.2.1
        have m_22r5 : ct_21 245 = .inl (fcI g, 6, .inl (F 5)) := (M_34).2.2.2.2.2.2.1
        have m_22r6 : ct_21 246 = .inl (fcI g, 36, .inl (F 6)) := (M_34).2.2.2.2.2.2.2.1
        have m_22r7 : ct_21 247 = .inl (fcI g, 20, .inl (F 7)) := (M_34).2.2.2.2.2.2.2.2.1
        have m_22r8 : ct_21 248 = .inl (fcI g, 20, .inl (F 8)) := (M_34).2.2.2.2.2.2.2.2.2
        refine fs_vi (y := (nI 1)) e_34 ?_
        refine lv_if_ne (tgt := 5) hx hb dX8_findFault_37 (by decide) (fun c_37 => ?_) (fun c_37 => ?_)
        rotate_left
        · exact absurd c_37 (by decide)
        have MB_23 : MA g ct_21 (mkz (z 0) (z 1) (z 2) (z 3) (z 4) (nI (6 * j + 6)) (nI (t (6 * j) - 48)) (nI (kdn (t ((6 * j) + 3)))) (nI (t ((6 * j) + 2) - 48)) (nI (t ((6 * j) + 4) - 48))) F := ⟨m_22o, m_22r0, m_22r1, m_22r2, m_22r3, m_22r4, m_22r5, m_22r6, m_22r7, m_22r8⟩
        rw [show 6 * j + 6 = 6 * (j + 1) by omega] at MB_23
        exact ih (j + 1) _ _ ls _ (by (try dsimp only); omega) ⟨lv_sub hl [0] rfl, ⟨_, _, _, _, MB_23, ⟨by have := A_34.1; omega, fun i hi => ff_on (by omega) A_6 A_34 hI.2 i (by omega)⟩, (show fSame 239 249 _ _ from (fSame.tr2 (fSame.tr2 (fSame.tr2 fSame.rf hsm (by omega) (by omega)) s_6 (by omega) (by omega)) s_34 (by omega) (by omega)))⟩⟩ hP hS
      · have m_24o : ct_21 239 = .inr (8, [.ref (fa g 240), .ref (fa g 241), .int (z 0), .ref (fa g 242), .ref (fa g 243), .ref (fa g 244), .int (z 1), .ref (fa g 245), .int (z 2), .ref (fa g 246), .ref (fa g 247), .ref (fa g 248), .int (z 3), .int (z 4), .int (nI (6 * j + 5)), .int (nI (t (6 * j) - 48)), .int (nI (kdn (t ((6 * j) + 3)))), .int (nI (t ((6 * j) + 2) - 48)), .int (nI (t ((6 * j) + 4) - 48))]) := (M_34).1
        have m_24r0 : ct_21 240 = .inl (fcI g, 121, .inl (F 0)) := (M_34).2.1
        have m_24r1 : ct_21 241 = .inl (fcI g, 726, .inl (F 1)) := (M_34).2.2.1
        have m_24r2 : ct_21 242 = .inl (fcI g, 242, .inl (F 2)) := (M_34).2.2.2.1
        have m_24r3 : ct_21 243 = .inl (fcI g, 2, .inl (F 3)) := (M_34).2.2.2.2.1
        have m_24r4 : ct_21 244 = .inl (fcI g, 60, .inl (F 4)) := (M_34).2.2.2.2.2.1
        have m_24r5 : ct_21 245 = .inl (fcI g, 6, .inl (F 5)) := (M_34).2.2.2.2.2.2.1
        have m_24r6 : ct_21 246 = .inl (fcI g, 36, .inl (F 6)) := (M_34).2.2.2.2.2.2.2.1
        have m_24r7 : ct_21 247 = .inl (fcI g, 20, .inl (F 7)) := (M_34).2.2.2.2.2.2.2.2.1
        have m_24r8 : ct_21 248 = .inl (fcI g, 20, .inl (F 8)) := (M_34).2.2.2.2.2.2.2.2.2
        refine fs_vi (y := (nI 0)) e_34 ?_
        refine lv_if_ne (tgt := 5) hx hb dX8_findFault_37 (by decide) (fun c_37 => ?_) (fun c_37 => ?_)
        · exact absurd c_37 (by decide)
        refine lv_aload_n hx hb dX8_findFault_40 rfl (lv_at hl 0 rfl) ?_
        refine fs_get E hP (k := 239) (v := .int (nI (6 * j + 5))) 14 fc8 m_24o (by omega) (by decide) (wm wl_16 (i := 12) rfl) rfl dX8_findFault_41 ?_
        have MB_25 : MA g ct_21 (mkz (z 0) (z 1) (z 2) (z 3) (z 4) (nI (6 * j + 5)) (nI (t (6 * j) - 48)) (nI (kdn (t ((6 * j) + 3)))) (nI (t ((6 * j) + 2) - 48)) (nI (t ((6 * j) + 4) - 48))) F := ⟨m_24o, m_24r0, m_24r1, m_24r2, m_24r3, m_24r4, m_24r5, m_24r6, m_24r7, m_24r8⟩
        refine fs_iret E hr hlk hP hS dX8_findFault_44 ?_
        exact ⟨ff_cm (by omega) A_6 c_25 A_34 hI.2, _, _, _, _, _, MB_25, (show fSame 239 249 _ _ from (fSame.tr2 (fSame.tr2 (fSame.tr2 fSame.rf hsm (by omega) (by omega)) s_6 (by omega) (by omega)) s_34 (by omega) (by omega)))⟩
    · rw [nI_eq (by omega) (by omega)] at c_25
      refine lv_bipush (v := (-6)) hx hb dX8_findFault_28 (by decide) ?_
      have MB_26 : MA g ct_18 (mkz (z 0) (z 1) (z 2) (z 3) (z 4) (nI (6 * j + 5)) (nI (t (6 * j) - 48)) (nI (kdn (t ((6 * j) + 3)))) (nI (t ((6 * j) + 2) - 48)) (nI (t ((6 * j) + 4) - 48))) F := ⟨m_19o, m_19r0, m_19r1, m_19r2, m_19r3, m_19r4, m_19r5, m_19r6, m_19r7, m_19r8⟩
      refine fs_iret E hr hlk hP hS dX8_findFault_30 ?_
      exact ⟨ff_ok (by omega) A_6 c_25 hI.2, _, _, _, _, _, MB_26, (show fSame 239 249 _ _ from (fSame.tr2 (fSame.tr2 fSame.rf hsm (by omega) (by omega)) s_6 (by omega) (by omega)))⟩
  · have m_27o : ct_18 239 = .inr (8, [.ref (fa g 240), .ref (fa g 241), .int (z 0), .ref (fa g 242), .ref (fa g 243), .ref (fa g 244), .int (z 1), .ref (fa g 245), .int (z 2), .ref (fa g 246), .ref (fa g 247), .ref (fa g 248), .int (z 3), .int (z 4), .int (nI b_6), .int w6, .int w7, .int w8, .int w9]) := (M_6).1
    have m_27r0 : ct_18 240 = .inl (fcI g, 121, .inl (F 0)) := (M_6).2.1
    have m_27r1 : ct_18 241 = .inl (fcI g, 726, .inl (F 1)) := (M_6).2.2.1
    have m_27r2 : ct_18 242 = .inl (fcI g, 242, .inl (F 2)) := (M_6).2.2.2.1
    have m_27r3 : ct_18 243 = .inl (fcI g, 2, .inl (F 3)) := (M_6).2.2.2.2.1
    have m_27r4 : ct_18 244 = .inl (fcI g, 60, .inl (F 4)) := (M_6).2.2.2.2.2.1
    have m_27r5 : ct_18 245 = .inl (fcI g, 6, .inl (F 5)) := (M_6).2.2.2.2.2.2.1
    have m_27r6 : ct_18 246 = .inl (fcI g, 36, .inl (F 6)) := (M_6).2.2.2.2.2.2.2.1
    have m_27r7 : ct_18 247 = .inl (fcI g, 20, .inl (F 7)) := (M_6).2.2.2.2.2.2.2.2.1
    have m_27r8 : ct_18 248 = .inl (fcI g, 20, .inl (F 8)) := (M_6).2.2.2.2.2.2.2.2.2
    refine fs_vi (y := (nI 0)) e_6 ?_
    refine lv_if_ne (tgt := 17) hx hb dX8_findFault_9 (by decide) (fun c_9 => ?_) (fun c_9 => ?_)
    · exact absurd c_9 (by decide)
    refine lv_aload_n hx hb dX8_findFault_12 rfl (lv_at hl 0 rfl) ?_
    refine fs_get E hP (k := 239) (v := .int (nI b_6)) 14 fc8 m_27o (by omega) (by decide) (wm wl_16 (i := 12) rfl) rfl dX8_findFault_13 ?_
    have MB_28 : MA g ct_18 (mkz (z 0) (z 1) (z 2) (z 3) (z 4) (nI b_6) w6 w7 w8 w9) F := ⟨m_27o, m_27r0, m_27r1, m_27r2, m_27r3, m_27r4, m_27r5, m_27r6, m_27r7, m_27r8⟩
    refine fs_iret E hr hlk hP hS dX8_findFault_16 ?_
    exact ⟨ff_no (by omega) hI.1 A_6 hI.2, _, _, _, _, _, MB_28, (show fSame 239 249 _ _ from (fSame.tr2 (fSame.tr2 fSame.rf hsm (by omega) (by omega)) s_6 (by omega) (by omega)))⟩

set_option maxRecDepth 100000 in
set_option maxHeartbeats 4000000 in
theorem c_X8_fault (l : Launch) (g : fG) (N : Nat) (ct : Nat → va_E) (σ : Nat → Int32) (k : Nat) (hs : Nat → Nat → Int32) (u1 : Bool) (s1 : Nat → Int32) (u2 : Bool) (s2 : Nat → Int32) (t : Nat → Nat) (len : Nat) (hN : 249 ≤ N) (hG : Good σ) (hR : RFAt g ct σ k hs u1 s1 u2 s2 t len) (h128 : ∀ i, i < len → t i < 128) : Met l yX8_fault (wsU yX8_fault cX8_fault 1 (some .int)) rX8_fault (fPre g N ct [.ref (fa g 239)]) (fQi g N (fun r ct1 => r = ffF t len ∧ RFAt g ct1 σ k hs u1 s1 u2 s2 t len ∧ fSame 239 249 ct ct1)) 0 0 (fB g) := by
  refine fs_start (own := RX8) (lv0 := [(0, .ref (fa g 239))]) (by decide) rfl (Nat.le_of_ble_eq_true rfl) rfl ?_
  intro p e s m args below meth c ls E hr hlk hnm hP hl hS
  have hx := E.1.1
  have hb := E.1.2.1
  obtain ⟨z, F, hM, hT, hH, hS9, hQ⟩ := id hR
  have m_1o : ct 239 = .inr (8, [.ref (fa g 240), .ref (fa g 241), .int (z 0), .ref (fa g 242), .ref (fa g 243), .ref (fa g 244), .int (z 1), .ref (fa g 245), .int (z 2), .ref (fa g 246), .ref (fa g 247), .ref (fa g 248), .int (z 3), .int (z 4), .int (z 5), .int (z 6), .int (z 7), .int (z 8), .int (z 9)]) := (hM).1
  have m_1r0 : ct 240 = .inl (fcI g, 121, .inl (F 0)) := (hM).2.1
  have m_1r1 : ct 241 = .inl (fcI g, 726, .inl (F 1)) := (hM).2.2.1
  have m_1r2 : ct 242 = .inl (fcI g, 242, .inl (F 2)) := (hM).2.2.2.1
  have m_1r3 : ct 243 = .inl (fcI g, 2, .inl (F 3)) := (hM).2.2.2.2.1
  have m_1r4 : ct 244 = .inl (fcI g, 60, .inl (F 4)) := (hM).2.2.2.2.2.1
  have m_1r5 : ct 245 = .inl (fcI g, 6, .inl (F 5)) := (hM).2.2.2.2.2.2.1
  have m_1r6 : ct 246 = .inl (fcI g, 36, .inl (F 6)) := (hM).2.2.2.2.2.2.2.1
  have m_1r7 : ct 247 = .inl (fcI g, 20, .inl (F 7)) := (hM).2.2.2.2.2.2.2.2.1
  have m_1r8 : ct 248 = .inl (fcI g, 20, .inl (F 8)) := (hM).2.2.2.2.2.2.2.2.2
  have hn3 := hG.n3
  have hn6 := hG.n6
  have hk20 := hG.k
  refine lv_aload_n hx hb dX8_fault_0 rfl (lv_at hl 0 rfl) ?_
  refine fs_i (va_runV (As := []) (rest := []) E.1 (c_X8_findFault l g N ct z F t len (by omega) hM hQ h128) (lk_RX8_140 E.1.2.2.2.2 ⟨Nat.le_of_ble_eq_true rfl, Nat.le_of_ble_eq_true rfl⟩) (fpreV E hP hS fc8 m_1o (by omega)) rfl rfl hl.1 rfl (lv_room (Nat.le_of_ble_eq_true rfl)) dX8_fault_1 ⟨Nat.zero_le _, Nat.zero_le _⟩) hS (fun r_1 ct_2 H locs p_1 hP hS => ?_)
  refine fs_vi (y := (ffF t len)) p_1.1 ?_
  obtain ⟨v5, v6, v7, v8, v9, M5, s5⟩ := p_1.2
  have m_3o : ct_2 239 = .inr (8, [.ref (fa g 240), .ref (fa g 241), .int (z 0), .ref (fa g 242), .ref (fa g 243), .ref (fa g 244), .int (z 1), .ref (fa g 245), .int (z 2), .ref (fa g 246), .ref (fa g 247), .ref (fa g 248), .int (z 3), .int (z 4), .int v5, .int v6, .int v7, .int v8, .int v9]) := (M5).1
  have m_3r0 : ct_2 240 = .inl (fcI g, 121, .inl (F 0)) := (M5).2.1
  have m_3r1 : ct_2 241 = .inl (fcI g, 726, .inl (F 1)) := (M5).2.2.1
  have m_3r2 : ct_2 242 = .inl (fcI g, 242, .inl (F 2)) := (M5).2.2.2.1
  have m_3r3 : ct_2 243 = .inl (fcI g, 2, .inl (F 3)) := (M5).2.2.2.2.1
  have m_3r4 : ct_2 244 = .inl (fcI g, 60, .inl (F 4)) := (M5).2.2.2.2.2.1
  have m_3r5 : ct_2 245 = .inl (fcI g, 6, .inl (F 5)) := (M5).2.2.2.2.2.2.1
  have m_3r6 : ct_2 246 = .inl (fcI g, 36, .inl (F 6)) := (M5).2.2.2.2.2.2.2.1
  have m_3r7 : ct_2 247 = .inl (fcI g, 20, .inl (F 7)) := (M5).2.2.2.2.2.2.2.2.1
  have m_3r8 : ct_2 248 = .inl (fcI g, 20, .inl (F 8)) := (M5).2.2.2.2.2.2.2.2.2
  have MB_4 : MA g ct_2 (mkz (z 0) (z 1) (z 2) (z 3) (z 4) v5 v6 v7 v8 v9) F := ⟨m_3o, m_3r0, m_3r1, m_3r2, m_3r3, m_3r4, m_3r5, m_3r6, m_3r7, m_3r8⟩
  refine fs_iret E hr hlk hP hS dX8_fault_4 ?_
  exact ⟨rfl, RFAt.kk hT hH hS9 hQ MB_4 ⟨⟨rfl, rfl⟩, rfl, rfl, rfl, rfl, rfl⟩, (show fSame 239 249 _ _ from (fSame.tr2 fSame.rf s5 (by omega) (by omega)))⟩

set_option maxRecDepth 100000 in
set_option maxHeartbeats 4000000 in
theorem c_X8_lookThrough (l : Launch) (g : fG) (N : Nat) (ct : Nat → va_E) (z : Nat → Int32) (F : Nat → Nat → Int32) (σ : Nat → Int32) (hN : 249 ≤ N) (hG : Good σ) (hM : MA g ct z F) (hT : SR σ F) (t : Nat → Nat) (len : Nat) (hQ : RP t len z F) (h128 : ∀ i, i < len → t i < 128) (hl5 : len % 6 = 5) (hcs : ∀ i, i < len → csa t i = true) : Met l yX8_lookThrough (wsU yX8_lookThrough cX8_lookThrough 4 (some .int)) rX8_lookThrough (fPre g N ct [.ref (fa g 239)]) (fQi g N (fun r ct1 => r = (if ¬ (∀ j, j < (len + 1) / 6 → pdT t j < nB σ) then -1 else if ¬ (∀ j, j < (len + 1) / 6 → sux (nB σ) (nI (pdK t j)) (nI (pdA t j)) (nI (pdB t j))) then -2 else nI ((len + 1) / 6)) ∧ ∃ (y5 y6 y7 y8 y9 : Int32), MA g ct1 (mkz (z 0) (z 1) (z 2) (z 3) (z 4) y5 y6 y7 y8 y9) F ∧ fSame 239 249 ct ct1)) 0 0 (fB g) := by
  refine fs_start (own := RX8) (lv0 := [(0, .ref (fa g 239))]) (by decide) rfl (Nat.le_of_ble_eq_true rfl) rfl ?_
  intro p e s m args below meth c ls E hr hlk hnm hP hl hS
  have hx := E.1.1
  have hb := E.1.2.1
  have m_1o : ct 239 = .inr (8, [.ref (fa g 240), .ref (fa g 241), .int (z 0), .ref (fa g 242), .ref (fa g 243), .ref (fa g 244), .int (z 1), .ref (fa g 245), .int (z 2), .ref (fa g 246), .ref (fa g 247), .ref (fa g 248), .int (z 3), .int (z 4), .int (z 5), .int (z 6), .int (z 7), .int (z 8), .int (z 9)]) := (hM).1
  have m_1r0 : ct 240 = .inl (fcI g, 121, .inl (F 0)) := (hM).2.1
  have m_1r1 : ct 241 = .inl (fcI g, 726, .inl (F 1)) := (hM).2.2.1
  have m_1r2 : ct 242 = .inl (fcI g, 242, .inl (F 2)) := (hM).2.2.2.1
  have m_1r3 : ct 243 = .inl (fcI g, 2, .inl (F 3)) := (hM).2.2.2.2.1
  have m_1r4 : ct 244 = .inl (fcI g, 60, .inl (F 4)) := (hM).2.2.2.2.2.1
  have m_1r5 : ct 245 = .inl (fcI g, 6, .inl (F 5)) := (hM).2.2.2.2.2.2.1
  have m_1r6 : ct 246 = .inl (fcI g, 36, .inl (F 6)) := (hM).2.2.2.2.2.2.2.1
  have m_1r7 : ct 247 = .inl (fcI g, 20, .inl (F 7)) := (hM).2.2.2.2.2.2.2.2.1
  have m_1r8 : ct 248 = .inl (fcI g, 20, .inl (F 8)) := (hM).2.2.2.2.2.2.2.2.2
  have hn3 := hG.n3
  have hn6 := hG.n6
  have hk20 := hG.k
  have hl60 := hQ.2.1
  refine lv_iconst (v := (nI 1)) hx hb dX8_lookThrough_0 (by decide) ?_
  refine fs_vi (y := ((fun n9 : Nat => (bI (∀ i, i < n9 → pdT t i < nB σ))) 0)) (bI_t (fun i hi => absurd hi (by omega))) ?_
  refine lv_istore_n (lv' := [(1, .int ((fun n9 : Nat => (bI (∀ i, i < n9 → pdT t i < nB σ))) 0)), (0, .ref (fa g 239))]) hx hb dX8_lookThrough_1 rfl hl (by decide) rfl (fun ls hl => ?_)
  refine lv_iconst (v := (nI 1)) hx hb dX8_lookThrough_2 (by decide) ?_
  refine fs_vi (y := ((fun n9 : Nat => (bI (∀ i, i < n9 → sux (nB σ) (nI (pdK t i)) (nI (pdA t i)) (nI (pdB t i))))) 0)) (bI_t (fun i hi => absurd hi (by omega))) ?_
  refine lv_istore_n (lv' := [(2, .int ((fun n9 : Nat => (bI (∀ i, i < n9 → sux (nB σ) (nI (pdK t i)) (nI (pdA t i)) (nI (pdB t i))))) 0)), (1, .int ((fun n9 : Nat => (bI (∀ i, i < n9 → pdT t i < nB σ))) 0)), (0, .ref (fa g 239))]) hx hb dX8_lookThrough_3 rfl hl (by decide) rfl (fun ls hl => ?_)
  refine lv_iconst (v := (nI 0)) hx hb dX8_lookThrough_4 (by decide) ?_
  refine lv_istore_n (lv' := [(3, .int (nI 0)), (2, .int ((fun n9 : Nat => (bI (∀ i, i < n9 → sux (nB σ) (nI (pdK t i)) (nI (pdA t i)) (nI (pdB t i))))) 0)), (1, .int ((fun n9 : Nat => (bI (∀ i, i < n9 → pdT t i < nB σ))) 0)), (0, .ref (fa g 239))]) hx hb dX8_lookThrough_5 rfl hl (by decide) rfl (fun ls hl => ?_)
  refine lv_aload_n hx hb dX8_lookThrough_6 rfl (lv_at hl 3 rfl) ?_
  refine lv_iconst (v := (nI 0)) hx hb dX8_lookThrough_7 (by decide) ?_
  refine fs_put E hP hS (k := 239) 14 fc8 m_1o (by omega) (by decide) (wm wl_16 (i := 12) rfl) rfl rfl rfl rfl (Nat.le_of_ble_eq_true rfl) dX8_lookThrough_8 (fun ct_2 H locs q_3 hP hS => ?_)
  have h_4 : ct_2 239 = .inr (8, [.ref (fa g 240), .ref (fa g 241), .int (z 0), .ref (fa g 242), .ref (fa g 243), .ref (fa g 244), .int (z 1), .ref (fa g 245), .int (z 2), .ref (fa g 246), .ref (fa g 247), .ref (fa g 248), .int (z 3), .int (z 4), .int (nI 0), .int (z 6), .int (z 7), .int (z 8), .int (z 9)]) := by rw [q_3]; exact fu_eq _ _ _
  have h_5 : ct_2 240 = .inl (fcI g, 121, .inl (F 0)) := by rw [q_3]; exact (fu_ne (by omega)).trans m_1r0
  have h_6 : ct_2 241 = .inl (fcI g, 726, .inl (F 1)) := by rw [q_3]; exact (fu_ne (by omega)).trans m_1r1
  have h_7 : ct_2 242 = .inl (fcI g, 242, .inl (F 2)) := by rw [q_3]; exact (fu_ne (by omega)).trans m_1r2
  have h_8 : ct_2 243 = .inl (fcI g, 2, .inl (F 3)) := by rw [q_3]; exact (fu_ne (by omega)).trans m_1r3
  have h_9 : ct_2 244 = .inl (fcI g, 60, .inl (F 4)) := by rw [q_3]; exact (fu_ne (by omega)).trans m_1r4
  have h_10 : ct_2 245 = .inl (fcI g, 6, .inl (F 5)) := by rw [q_3]; exact (fu_ne (by omega)).trans m_1r5
  have h_11 : ct_2 246 = .inl (fcI g, 36, .inl (F 6)) := by rw [q_3]; exact (fu_ne (by omega)).trans m_1r6
  have h_12 : ct_2 247 = .inl (fcI g, 20, .inl (F 7)) := by rw [q_3]; exact (fu_ne (by omega)).trans m_1r7
  have h_13 : ct_2 248 = .inl (fcI g, 20, .inl (F 8)) := by rw [q_3]; exact (fu_ne (by omega)).trans m_1r8
  have MB_14 : MA g ct_2 (mkz (z 0) (z 1) (z 2) (z 3) (z 4) (nI 0) (z 6) (z 7) (z 8) (z 9)) F := ⟨h_4, h_5, h_6, h_7, h_8, h_9, h_10, h_11, h_12, h_13⟩
  rw [show (nI 0) = nI (min (6 * 0) len) by rw [show min (6 * 0) len = 0 by omega]] at MB_14
  refine fs_ind (g := g) (N := N) (St := Nat) (fun (j : Nat) (ct_15 : Nat → va_E) (ls : Array Slot) => lv_has ls 4 [(0, .ref (fa g 239)), (1, .int (bI (∀ i, i < j → pdT t i < nB σ))), (2, .int (bI (∀ i, i < j → sux (nB σ) (nI (pdK t i)) (nI (pdA t i)) (nI (pdB t i))))), (3, .int (nI j))] ∧ ∃ (y6 y7 y8 y9 : Int32), MA g ct_15 (mkz (z 0) (z 1) (z 2) (z 3) (z 4) (nI (min (6 * j) len)) y6 y7 y8 y9) F ∧ (j ≤ (len + 1) / 6 ∧ True) ∧ fSame 239 249 ct ct_15) (fun j => (len + 1) / 6 - j) ?_ 0 _ _ ls _ ⟨lv_sub hl [3, 2, 1, 0] rfl, ⟨_, _, _, _, MB_14, ⟨Nat.zero_le _, trivial⟩, (show fSame 239 249 _ _ from (fSame.ap fSame.rf q_3 (by omega) (by omega)))⟩⟩ hP hS
  clear hl hP hS
  intro st ct_15 H ls locs hI hP hS ih
  obtain ⟨j, rfl⟩ : ∃ z, z = st := ⟨_, rfl⟩
  obtain ⟨hl, y6, y7, y8, y9, hM1, hI, hsm⟩ := hI
  have m_16o : ct_15 239 = .inr (8, [.ref (fa g 240), .ref (fa g 241), .int (z 0), .ref (fa g 242), .ref (fa g 243), .ref (fa g 244), .int (z 1), .ref (fa g 245), .int (z 2), .ref (fa g 246), .ref (fa g 247), .ref (fa g 248), .int (z 3), .int (z 4), .int (nI (min (6 * j) len)), .int y6, .int y7, .int y8, .int y9]) := (hM1).1
  have m_16r0 : ct_15 240 = .inl (fcI g, 121, .inl (F 0)) := (hM1).2.1
  have m_16r1 : ct_15 241 = .inl (fcI g, 726, .inl (F 1)) := (hM1).2.2.1
  have m_16r2 : ct_15 242 = .inl (fcI g, 242, .inl (F 2)) := (hM1).2.2.2.1
  have m_16r3 : ct_15 243 = .inl (fcI g, 2, .inl (F 3)) := (hM1).2.2.2.2.1
  have m_16r4 : ct_15 244 = .inl (fcI g, 60, .inl (F 4)) := (hM1).2.2.2.2.2.1
  have m_16r5 : ct_15 245 = .inl (fcI g, 6, .inl (F 5)) := (hM1).2.2.2.2.2.2.1
  have m_16r6 : ct_15 246 = .inl (fcI g, 36, .inl (F 6)) := (hM1).2.2.2.2.2.2.2.1
  have m_16r7 : ct_15 247 = .inl (fcI g, 20, .inl (F 7)) := (hM1).2.2.2.2.2.2.2.2.1
  have m_16r8 : ct_15 248 = .inl (fcI g, 20, .inl (F 8)) := (hM1).2.2.2.2.2.2.2.2.2
  have hI1 := hI.1
  refine lv_aload_n hx hb dX8_lookThrough_11 rfl (lv_at hl 0 rfl) ?_
  refine fs_get E hP (k := 239) (v := .int (nI (min (6 * j) len))) 14 fc8 m_16o (by omega) (by decide) (wm wl_16 (i := 12) rfl) rfl dX8_lookThrough_12 ?_
  refine lv_aload_n hx hb dX8_lookThrough_15 rfl (lv_at hl 0 rfl) ?_
  refine fs_get E hP (k := 239) (v := .int (z 1)) 6 fc8 m_16o (by omega) (by decide) (wm wl_16 (i := 13) rfl) rfl dX8_lookThrough_16 ?_
  refine fs_vi (y := nI len) hQ.1 ?_
  refine lv_icmp_ge (tgt := 90) hx hb dX8_lookThrough_19 (by decide) (fun c_19 => ?_) (fun c_19 => ?_)
  · rw [nI_leI (by omega) (by omega)] at c_19
    refine lv_iload_n hx hb dX8_lookThrough_90 rfl (lv_at hl 1 rfl) ?_
    refine lv_if_ne (tgt := 98) hx hb dX8_lookThrough_91 (by decide) (fun c_91 => ?_) (fun c_91 => ?_)
    · have c_91 := (fb_1 rfl).mp c_91
      refine lv_iload_n hx hb dX8_lookThrough_98 rfl (lv_at hl 2 rfl) ?_
      refine lv_if_eq (tgt := 106) hx hb dX8_lookThrough_99 (by decide) (fun c_99 => ?_) (fun c_99 => ?_)
      · have c_99 := (fb_0 rfl).mp c_99
        refine lv_bipush (v := (-2)) hx hb dX8_lookThrough_106 (by decide) ?_
        have MB_17 : MA g ct_15 (mkz (z 0) (z 1) (z 2) (z 3) (z 4) (nI (min (6 * j) len)) y6 y7 y8 y9) F := ⟨m_16o, m_16r0, m_16r1, m_16r2, m_16r3, m_16r4, m_16r5, m_16r6, m_16r7, m_16r8⟩
        obtain rfl : j = (len + 1) / 6 := by omega
        refine fs_iret E hr hlk hP hS dX8_lookThrough_108 ?_
        exact ⟨by rw [if_neg (fun z => z c_91), if_pos c_99], _, _, _, _, _, MB_17, (show fSame 239 249 _ _ from (fSame.tr2 fSame.rf hsm (by omega) (by omega)))⟩
      · have c_99 := (fb_1 rfl).mp c_99
        refine lv_iload_n hx hb dX8_lookThrough_102 rfl (lv_at hl 3 rfl) ?_
        refine lv_goto (tgt := 108) hx hb dX8_lookThrough_103 (by decide) ?_
        have MB_18 : MA g ct_15 (mkz (z 0) (z 1) (z 2) (z 3) (z 4) (nI (min (6 * j) len)) y6 y7 y8 y9) F := ⟨m_16o, m_16r0, m_16r1, m_16r2, m_16r3, m_16r4, m_16r5, m_16r6, m_16r7, m_16r8⟩
        obtain rfl : j = (len + 1) / 6 := by omega
        refine fs_iret E hr hlk hP hS dX8_lookThrough_108 ?_
        exact ⟨by rw [if_neg (fun z => z c_91), if_neg (fun z => z c_99)], _, _, _, _, _, MB_18, (show fSame 239 249 _ _ from (fSame.tr2 fSame.rf hsm (by omega) (by omega)))⟩
    · have c_91 := (fb_0 rfl).mp c_91
      refine lv_iconst (v := (-1)) hx hb dX8_lookThrough_94 (by decide) ?_
      refine lv_goto (tgt := 108) hx hb dX8_lookThrough_95 (by decide) ?_
      have MB_19 : MA g ct_15 (mkz (z 0) (z 1) (z 2) (z 3) (z 4) (nI (min (6 * j) len)) y6 y7 y8 y9) F := ⟨m_16o, m_16r0, m_16r1, m_16r2, m_16r3, m_16r4, m_16r5, m_16r6, m_16r7, m_16r8⟩
      obtain rfl : j = (len + 1) / 6 := by omega
      refine fs_iret E hr hlk hP hS dX8_lookThrough_108 ?_
      exact ⟨by rw [if_pos c_91], _, _, _, _, _, MB_19, (show fSame 239 249 _ _ from (fSame.tr2 fSame.rf hsm (by omega) (by omega)))⟩
  · rw [nI_leI (by omega) (by omega)] at c_19
    have hjm : j < (len + 1) / 6 := by omega
    have hpd := pd_lt hl5 hcs hjm
    rw [show min (6 * j) len = 6 * j by omega] at hM1
    have m_20o : ct_15 239 = .inr (8, [.ref (fa g 240), .ref (fa g 241), .int (z 0), .ref (fa g 242), .ref (fa g 243), .ref (fa g 244), .int (z 1), .ref (fa g 245), .int (z 2), .ref (fa g 246), .ref (fa g 247), .ref (fa g 248), .int (z 3), .int (z 4), .int (nI (6 * j)), .int y6, .int y7, .int y8, .int y9]) := (hM1).1
    have m_20r0 : ct_15 240 = .inl (fcI g, 121, .inl (F 0)) := (hM1).2.1
    have m_20r1 : ct_15 241 = .inl (fcI g, 726, .inl (F 1)) := (hM1).2.2.1
    have m_20r2 : ct_15 242 = .inl (fcI g, 242, .inl (F 2)) := (hM1).2.2.2.1
    have m_20r3 : ct_15 243 = .inl (fcI g, 2, .inl (F 3)) := (hM1).2.2.2.2.1
    have m_20r4 : ct_15 244 = .inl (fcI g, 60, .inl (F 4)) := (hM1).2.2.2.2.2.1
    have m_20r5 : ct_15 245 = .inl (fcI g, 6, .inl (F 5)) := (hM1).2.2.2.2.2.2.1
    have m_20r6 : ct_15 246 = .inl (fcI g, 36, .inl (F 6)) := (hM1).2.2.2.2.2.2.2.1
    have m_20r7 : ct_15 247 = .inl (fcI g, 20, .inl (F 7)) := (hM1).2.2.2.2.2.2.2.2.1
    have m_20r8 : ct_15 248 = .inl (fcI g, 20, .inl (F 8)) := (hM1).2.2.2.2.2.2.2.2.2
    refine lv_aload_n hx hb dX8_lookThrough_22 rfl (lv_at hl 0 rfl) ?_
    have MB_21 : MA g ct_15 (mkz (z 0) (z 1) (z 2) (z 3) (z 4) (nI (6 * j)) y6 y7 y8 y9) F := ⟨m_20o, m_20r0, m_20r1, m_20r2, m_20r3, m_20r4, m_20r5, m_20r6, m_20r7, m_20r8⟩
    refine fs_i (va_runV (As := []) (rest := []) E.1 (c_X8_readsRumour l g N ct_15 z F t len (6 * j) y6 y7 y8 y9 (by omega) MB_21 hQ h128 (by omega) (by omega)) (lk_RX8_121 E.1.2.2.2.2 ⟨Nat.le_of_ble_eq_true rfl, Nat.le_of_ble_eq_true rfl⟩) (fpreV E hP hS fc8 m_20o (by omega)) rfl rfl hl.1 rfl (lv_room (Nat.le_of_ble_eq_true rfl)) dX8_lookThrough_23 ⟨Nat.zero_le _, Nat.zero_le _⟩) hS (fun r_23 ct_22 H locs p_23 hP hS => ?_)
    obtain ⟨u_23, s_23⟩ := p_23
    rcases u_23 with ⟨A_23, e_23, M_23⟩ | ⟨b9, w6, w7, w8, w9, A_23, e_23, M_23⟩
    rotate_left
    · exact absurd A_23 (rd_not hcs (by omega))
    have m_23o : ct_22 239 = .inr (8, [.ref (fa g 240), .ref (fa g 241), .int (z 0), .ref (fa g 242), .ref (fa g 243), .ref (fa g 244), .int (z 1), .ref (fa g 245), .int (z 2), .ref (fa g 246), .ref (fa g 247), .ref (fa g 248), .int (z 3), .int (z 4), .int (nI (6 * j + 5)), .int (nI (t (6 * j) - 48)), .int (nI (kdn (t ((6 * j) + 3)))), .int (nI (t ((6 * j) + 2) - 48)), .int (nI (t ((6 * j) + 4) - 48))]) := (M_23).1
    have m_23r0 : ct_22 240 = .inl (fcI g, 121, .inl (F 0)) := (M_23).2.1
    have m_23r1 : ct_22 241 = .inl (fcI g, 726, .inl (F 1)) := (M_23).2.2.1
    have m_23r2 : ct_22 242 = .inl (fcI g, 242, .inl (F 2)) := (M_23).2.2.2.1
    have m_23r3 : ct_22 243 = .inl (fcI g, 2, .inl (F 3)) := (M_23).2.2.2.2.1
    have m_23r4 : ct_22 244 = .inl (fcI g, 60, .inl (F 4)) := (M_23).2.2.2.2.2.1
    have m_23r5 : ct_22 245 = .inl (fcI g, 6, .inl (F 5)) := (M_23).2.2.2.2.2.2.1
    have m_23r6 : ct_22 246 = .inl (fcI g, 36, .inl (F 6)) := (M_23).2.2.2.2.2.2.2.1
    have m_23r7 : ct_22 247 = .inl (fcI g, 20, .inl (F 7)) := (M_23).2.2.2.2.2.2.2.2.1
    have m_23r8 : ct_22 248 = .inl (fcI g, 20, .inl (F 8)) := (M_23).2.2.2.2.2.2.2.2.2
    refine fs_vi (y := (nI 1)) e_23 ?_
    refine lv_pop hx hb dX8_lookThrough_26 rfl ?_
    refine lv_aload_n hx hb dX8_lookThrough_27 rfl (lv_at hl 0 rfl) ?_
    refine lv_bipush (v := (nI 44)) hx hb dX8_lookThrough_28 (by decide) ?_
    have MB_24 : MA g ct_22 (mkz (z 0) (z 1) (z 2) (z 3) (z 4) (nI (6 * j + 5)) (nI (t (6 * j) - 48)) (nI (kdn (t ((6 * j) + 3)))) (nI (t ((6 * j) + 2) - 48)) (nI (t ((6 * j) + 4) - 48))) F := ⟨m_23o, m_23r0, m_23r1, m_23r2, m_23r3, m_23r4, m_23r5, m_23r6, m_23r7, m_23r8⟩
    refine fs_i (va_runV (As := [.int (nI 44)]) (rest := []) E.1 (c_X8_isNext l g N ct_22 z F t len (6 * j + 5) (nI (t (6 * j) - 48)) (nI (kdn (t ((6 * j) + 3)))) (nI (t ((6 * j) + 2) - 48)) (nI (t ((6 * j) + 4) - 48)) (by omega) MB_24 hQ h128 (by omega) 44 (by omega)) (lk_RX8_125 E.1.2.2.2.2 ⟨Nat.le_of_ble_eq_true rfl, Nat.le_of_ble_eq_true rfl⟩) (fpreV E hP hS fc8 m_23o (by omega)) rfl rfl hl.1 rfl (lv_room (Nat.le_of_ble_eq_true rfl)) dX8_lookThrough_30 ⟨Nat.zero_le _, Nat.zero_le _⟩) hS (fun r_30 ct_25 H locs p_30 hP hS => ?_)
    obtain ⟨u_30, s_30⟩ := p_30
    have M_30 : MA g ct_25 (mkz (z 0) (z 1) (z 2) (z 3) (z 4) (nI (min (6 * (j + 1)) len)) (nI (pdT t j)) (nI (pdK t j)) (nI (pdA t j)) (nI (pdB t j))) F := by
      rcases u_30 with ⟨A9, e9, M9⟩ | ⟨A9, e9, M9⟩
      · rw [show min (6 * (j + 1)) len = 6 * j + 5 + 1 by omega]; exact M9
      · rw [show min (6 * (j + 1)) len = 6 * j + 5 from pd_end hcs (by omega) A9]; exact M9
    clear u_30
    have m_26o : ct_25 239 = .inr (8, [.ref (fa g 240), .ref (fa g 241), .int (z 0), .ref (fa g 242), .ref (fa g 243), .ref (fa g 244), .int (z 1), .ref (fa g 245), .int (z 2), .ref (fa g 246), .ref (fa g 247), .ref (fa g 248), .int (z 3), .int (z 4), .int (nI (min (6 * (j + 1)) len)), .int (nI (pdT t j)), .int (nI (pdK t j)), .int (nI (pdA t j)), .int (nI (pdB t j))]) := (M_30).1
    have m_26r0 : ct_25 240 = .inl (fcI g, 121, .inl (F 0)) := (M_30).2.1
    have m_26r1 : ct_25 241 = .inl (fcI g, 726, .inl (F 1)) := (M_30).2.2.1
    have m_26r2 : ct_25 242 = .inl (fcI g, 242, .inl (F 2)) := (M_30).2.2.2.1
    have m_26r3 : ct_25 243 = .inl (fcI g, 2, .inl (F 3)) := (M_30).2.2.2.2.1
    have m_26r4 : ct_25 244 = .inl (fcI g, 60, .inl (F 4)) := (M_30).2.2.2.2.2.1
    have m_26r5 : ct_25 245 = .inl (fcI g, 6, .inl (F 5)) := (M_30).2.2.2.2.2.2.1
    have m_26r6 : ct_25 246 = .inl (fcI g, 36, .inl (F 6)) := (M_30).2.2.2.2.2.2.2.1
    have m_26r7 : ct_25 247 = .inl (fcI g, 20, .inl (F 7)) := (M_30).2.2.2.2.2.2.2.2.1
    have m_26r8 : ct_25 248 = .inl (fcI g, 20, .inl (F 8)) := (M_30).2.2.2.2.2.2.2.2.2
    refine lv_pop hx hb dX8_lookThrough_33 rfl ?_
    refine lv_iload_n hx hb dX8_lookThrough_34 rfl (lv_at hl 1 rfl) ?_
    refine lv_if_eq (tgt := 53) hx hb dX8_lookThrough_35 (by decide) (fun c_35 => ?_) (fun c_35 => ?_)
    · have c_35 := (fb_0 rfl).mp c_35
      refine lv_iconst (v := (nI 0)) hx hb dX8_lookThrough_53 (by decide) ?_
      refine fs_vi (y := (bI (∀ i, i < (j + 1) → pdT t i < nB σ))) (bI_f (fun y => c_35 (fun i hi => y i (by omega)))) ?_
      refine lv_istore_n (lv' := [(1, .int (bI (∀ i, i < (j + 1) → pdT t i < nB σ))), (0, .ref (fa g 239)), (2, .int (bI (∀ i, i < j → sux (nB σ) (nI (pdK t i)) (nI (pdA t i)) (nI (pdB t i))))), (3, .int (nI j))]) hx hb dX8_lookThrough_54 rfl hl (by decide) rfl (fun ls hl => ?_)
      refine lv_iload_n hx hb dX8_lookThrough_55 rfl (lv_at hl 2 rfl) ?_
      refine lv_if_eq (tgt := 82) hx hb dX8_lookThrough_56 (by decide) (fun c_56 => ?_) (fun c_56 => ?_)
      · have c_56 := (fb_0 rfl).mp c_56
        refine lv_iconst (v := (nI 0)) hx hb dX8_lookThrough_82 (by decide) ?_
        refine fs_vi (y := (bI (∀ i, i < (j + 1) → sux (nB σ) (nI (pdK t i)) (nI (pdA t i)) (nI (pdB t i))))) (bI_f (fun y => c_56 (fun i hi => y i (by omega)))) ?_
        refine lv_istore_n (lv' := [(2, .int (bI (∀ i, i < (j + 1) → sux (nB σ) (nI (pdK t i)) (nI (pdA t i)) (nI (pdB t i))))), (1, .int (bI (∀ i, i < (j + 1) → pdT t i < nB σ))), (0, .ref (fa g 239)), (3, .int (nI j))]) hx hb dX8_lookThrough_83 rfl hl (by decide) rfl (fun ls hl => ?_)
        refine lv_iinc (v := (nI (j + 1))) (lv' := [(3, .int (nI (j + 1))), (2, .int (bI (∀ i, i < (j + 1) → sux (nB σ) (nI (pdK t i)) (nI (pdA t i)) (nI (pdB t i))))), (1, .int (bI (∀ i, i < (j + 1) → pdT t i < nB σ))), (0, .ref (fa g 239))]) hx hb dX8_lookThrough_84 hl (k := 3) rfl (nI_1 _) (by decide) rfl (fun ls hl => ?_)
        refine lv_goto (tgt := 11) hx hb dX8_lookThrough_87 (by decide) ?_
        have MB_27 : MA g ct_25 (mkz (z 0) (z 1) (z 2) (z 3) (z 4) (nI (min (6 * (j + 1)) len)) (nI (pdT t j)) (nI (pdK t j)) (nI (pdA t j)) (nI (pdB t j))) F := ⟨m_26o, m_26r0, m_26r1, m_26r2, m_26r3, m_26r4, m_26r5, m_26r6, m_26r7, m_26r8⟩
        exact ih (j + 1) _ _ ls _ (by (try dsimp only); omega) ⟨lv_sub hl [3, 2, 1, 0] rfl, ⟨_, _, _, _, MB_27, ⟨by omega, trivial⟩, (show fSame 239 249 _ _ from (fSame.tr2 (fSame.tr2 (fSame.tr2 fSame.rf hsm (by omega) (by omega)) s_23 (by omega) (by omega)) s_30 (by omega) (by omega)))⟩⟩ hP hS
      · have c_56 := (fb_1 rfl).mp c_56
        refine lv_aload_n hx hb dX8_lookThrough_59 rfl (lv_at hl 1 rfl) ?_
        refine lv_aload_n hx hb dX8_lookThrough_60 rfl (lv_at hl 1 rfl) ?_
        refine fs_get E hP (k := 239) (v := .int (nI (pdK t j))) 16 fc8 m_26o (by omega) (by decide) (wm wl_16 (i := 15) rfl) rfl dX8_lookThrough_61 ?_
        refine lv_aload_n hx hb dX8_lookThrough_64 rfl (lv_at hl 1 rfl) ?_
        refine fs_get E hP (k := 239) (v := .int (nI (pdA t j))) 17 fc8 m_26o (by omega) (by decide) (wm wl_16 (i := 16) rfl) rfl dX8_lookThrough_65 ?_
        refine lv_aload_n hx hb dX8_lookThrough_68 rfl (lv_at hl 1 rfl) ?_
        refine fs_get E hP (k := 239) (v := .int (nI (pdB t j))) 18 fc8 m_26o (by omega) (by decide) (wm wl_16 (i := 17) rfl) rfl dX8_lookThrough_69 ?_
        have MB_28 : MA g ct_25 (mkz (z 0) (z 1) (z 2) (z 3) (z 4) (nI (min (6 * (j + 1)) len)) (nI (pdT t j)) (nI (pdK t j)) (nI (pdA t j)) (nI (pdB t j))) F := ⟨m_26o, m_26r0, m_26r1, m_26r2, m_26r3, m_26r4, m_26r5, m_26r6, m_26r7, m_26r8⟩
        refine fs_pi (va_runV (As := [.int (nI (pdK t j)), .int (nI (pdA t j)), .int (nI (pdB t j))]) (rest := []) E.1 (c_X8_suits l g N ct_25 (mkz (z 0) (z 1) (z 2) (z 3) (z 4) (nI (min (6 * (j + 1)) len)) (nI (pdT t j)) (nI (pdK t j)) (nI (pdA t j)) (nI (pdB t j))) F σ (by omega) hG MB_28 hT (nI (pdK t j)) (nI (pdA t j)) (nI (pdB t j))) (lk_RX8_108 E.1.2.2.2.2 ⟨Nat.le_of_ble_eq_true rfl, Nat.le_of_ble_eq_true rfl⟩) (fpreV E hP hS fc8 m_26o (by omega)) rfl rfl hl.1 rfl (lv_room (Nat.le_of_ble_eq_true rfl)) dX8_lookThrough_72 ⟨Nat.zero_le _, Nat.zero_le _⟩) hS (fun r_72 locs p_72 hS => ?_)
        refine lv_if_eq (tgt := 82) hx hb dX8_lookThrough_75 (by decide) (fun c_75 => ?_) (fun c_75 => ?_)
        · have c_75 := (fb_0 p_72).mp c_75
          refine lv_iconst (v := (nI 0)) hx hb dX8_lookThrough_82 (by decide) ?_
          refine fs_vi (y := (bI (∀ i, i < (j + 1) → sux (nB σ) (nI (pdK t i)) (nI (pdA t i)) (nI (pdB t i))))) (bI_f (fun y => c_75 (y j (by omega)))) ?_
          refine lv_istore_n (lv' := [(2, .int (bI (∀ i, i < (j + 1) → sux (nB σ) (nI (pdK t i)) (nI (pdA t i)) (nI (pdB t i))))), (1, .int (bI (∀ i, i < (j + 1) → pdT t i < nB σ))), (0, .ref (fa g 239)), (3, .int (nI j))]) hx hb dX8_lookThrough_83 rfl hl (by decide) rfl (fun ls hl => ?_)
          refine lv_iinc (v := (nI (j + 1))) (lv' := [(3, .int (nI (j + 1))), (2, .int (bI (∀ i, i < (j + 1) → sux (nB σ) (nI (pdK t i)) (nI (pdA t i)) (nI (pdB t i))))), (1, .int (bI (∀ i, i < (j + 1) → pdT t i < nB σ))), (0, .ref (fa g 239))]) hx hb dX8_lookThrough_84 hl (k := 3) rfl (nI_1 _) (by decide) rfl (fun ls hl => ?_)
          refine lv_goto (tgt := 11) hx hb dX8_lookThrough_87 (by decide) ?_
          have MB_29 : MA g ct_25 (mkz (z 0) (z 1) (z 2) (z 3) (z 4) (nI (min (6 * (j + 1)) len)) (nI (pdT t j)) (nI (pdK t j)) (nI (pdA t j)) (nI (pdB t j))) F := ⟨m_26o, m_26r0, m_26r1, m_26r2, m_26r3, m_26r4, m_26r5, m_26r6, m_26r7, m_26r8⟩
          exact ih (j + 1) _ _ ls _ (by (try dsimp only); omega) ⟨lv_sub hl [3, 2, 1, 0] rfl, ⟨_, _, _, _, MB_29, ⟨by omega, trivial⟩, (show fSame 239 249 _ _ from (fSame.tr2 (fSame.tr2 (fSame.tr2 fSame.rf hsm (by omega) (by omega)) s_23 (by omega) (by omega)) s_30 (by omega) (by omega)))⟩⟩ hP hS
        · have c_75 := (fb_1 p_72).mp c_75
          refine lv_iconst (v := (nI 1)) hx hb dX8_lookThrough_78 (by decide) ?_
          refine lv_goto (tgt := 83) hx hb dX8_lookThrough_79 (by decide) ?_
          refine fs_vi (y := (bI (∀ i, i < (j + 1) → sux (nB σ) (nI (pdK t i)) (nI (pdA t i)) (nI (pdB t i))))) (bI_t (fun i hi => if y : i = j then (by subst y; exact c_75) else c_56 i (by omega))) ?_
          refine lv_istore_n (lv' := [(2, .int (bI (∀ i, i < (j + 1) → sux (nB σ) (nI (pdK t i)) (nI (pdA t i)) (nI (pdB t i))))), (1, .int (bI (∀ i, i < (j + 1) → pdT t i < nB σ))), (0, .ref (fa g 239)), (3, .int (nI j))]) hx hb dX8_lookThrough_83 rfl hl (by decide) rfl (fun ls hl => ?_)
          refine lv_iinc (v := (nI (j + 1))) (lv' := [(3, .int (nI (j + 1))), (2, .int (bI (∀ i, i < (j + 1) → sux (nB σ) (nI (pdK t i)) (nI (pdA t i)) (nI (pdB t i))))), (1, .int (bI (∀ i, i < (j + 1) → pdT t i < nB σ))), (0, .ref (fa g 239))]) hx hb dX8_lookThrough_84 hl (k := 3) rfl (nI_1 _) (by decide) rfl (fun ls hl => ?_)
          refine lv_goto (tgt := 11) hx hb dX8_lookThrough_87 (by decide) ?_
          have MB_30 : MA g ct_25 (mkz (z 0) (z 1) (z 2) (z 3) (z 4) (nI (min (6 * (j + 1)) len)) (nI (pdT t j)) (nI (pdK t j)) (nI (pdA t j)) (nI (pdB t j))) F := ⟨m_26o, m_26r0, m_26r1, m_26r2, m_26r3, m_26r4, m_26r5, m_26r6, m_26r7, m_26r8⟩
          exact ih (j + 1) _ _ ls _ (by (try dsimp only); omega) ⟨lv_sub hl [3, 2, 1, 0] rfl, ⟨_, _, _, _, MB_30, ⟨by omega, trivial⟩, (show fSame 239 249 _ _ from (fSame.tr2 (fSame.tr2 (fSame.tr2 fSame.rf hsm (by omega) (by omega)) s_23 (by omega) (by omega)) s_30 (by omega) (by omega)))⟩⟩ hP hS
    · have c_35 := (fb_1 rfl).mp c_35
      refine lv_aload_n hx hb dX8_lookThrough_38 rfl (lv_at hl 0 rfl) ?_
      refine lv_aload_n hx hb dX8_lookThrough_39 rfl (lv_at hl 0 rfl) ?_
      refine fs_get E hP (k := 239) (v := .int (nI (pdT t j))) 15 fc8 m_26o (by omega) (by decide) (wm wl_16 (i := 14) rfl) rfl dX8_lookThrough_40 ?_
      have MB_31 : MA g ct_25 (mkz (z 0) (z 1) (z 2) (z 3) (z 4) (nI (min (6 * (j + 1)) len)) (nI (pdT t j)) (nI (pdK t j)) (nI (pdA t j)) (nI (pdB t j))) F := ⟨m_26o, m_26r0, m_26r1, m_26r2, m_26r3, m_26r4, m_26r5, m_26r6, m_26r7, m_26r8⟩
      refine fs_pi (va_runV (As := [.int (nI (pdT t j))]) (rest := []) E.1 (c_X8_isBox l g N ct_25 (mkz (z 0) (z 1) (z 2) (z 3) (z 4) (nI (min (6 * (j + 1)) len)) (nI (pdT t j)) (nI (pdK t j)) (nI (pdA t j)) (nI (pdB t j))) F σ (by omega) hG MB_31 hT (nI (pdT t j))) (lk_RX8_57 E.1.2.2.2.2 ⟨Nat.le_of_ble_eq_true rfl, Nat.le_of_ble_eq_true rfl⟩) (fpreV E hP hS fc8 m_26o (by omega)) rfl rfl hl.1 rfl (lv_room (Nat.le_of_ble_eq_true rfl)) dX8_lookThrough_43 ⟨Nat.zero_le _, Nat.zero_le _⟩) hS (fun r_43 locs p_43 hS => ?_)
      refine lv_if_eq (tgt := 53) hx hb dX8_lookThrough_46 (by decide) (fun c_46 => ?_) (fun c_46 => ?_)
      · have c_46 := (fb_0 p_43).mp c_46
        refine lv_iconst (v := (nI 0)) hx hb dX8_lookThrough_53 (by decide) ?_
        refine fs_vi (y := (bI (∀ i, i < (j + 1) → pdT t i < nB σ))) (bI_f (fun y => c_46 (hb_y (by omega) (y j (by omega))))) ?_
        refine lv_istore_n (lv' := [(1, .int (bI (∀ i, i < (j + 1) → pdT t i < nB σ))), (0, .ref (fa g 239)), (2, .int (bI (∀ i, i < j → sux (nB σ) (nI (pdK t i)) (nI (pdA t i)) (nI (pdB t i))))), (3, .int (nI j))]) hx hb dX8_lookThrough_54 rfl hl (by decide) rfl (fun ls hl => ?_)
        refine lv_iload_n hx hb dX8_lookThrough_55 rfl (lv_at hl 2 rfl) ?_
        refine lv_if_eq (tgt := 82) hx hb dX8_lookThrough_56 (by decide) (fun c_56 => ?_) (fun c_56 => ?_)
        · have c_56 := (fb_0 rfl).mp c_56
          refine lv_iconst (v := (nI 0)) hx hb dX8_lookThrough_82 (by decide) ?_
          refine fs_vi (y := (bI (∀ i, i < (j + 1) → sux (nB σ) (nI (pdK t i)) (nI (pdA t i)) (nI (pdB t i))))) (bI_f (fun y => c_56 (fun i hi => y i (by omega)))) ?_
          refine lv_istore_n (lv' := [(2, .int (bI (∀ i, i < (j + 1) → sux (nB σ) (nI (pdK t i)) (nI (pdA t i)) (nI (pdB t i))))), (1, .int (bI (∀ i, i < (j + 1) → pdT t i < nB σ))), (0, .ref (fa g 239)), (3, .int (nI j))]) hx hb dX8_lookThrough_83 rfl hl (by decide) rfl (fun ls hl => ?_)
          refine lv_iinc (v := (nI (j + 1))) (lv' := [(3, .int (nI (j + 1))), (2, .int (bI (∀ i, i < (j + 1) → sux (nB σ) (nI (pdK t i)) (nI (pdA t i)) (nI (pdB t i))))), (1, .int (bI (∀ i, i < (j + 1) → pdT t i < nB σ))), (0, .ref (fa g 239))]) hx hb dX8_lookThrough_84 hl (k := 3) rfl (nI_1 _) (by decide) rfl (fun ls hl => ?_)
          refine lv_goto (tgt := 11) hx hb dX8_lookThrough_87 (by decide) ?_
          have MB_32 : MA g ct_25 (mkz (z 0) (z 1) (z 2) (z 3) (z 4) (nI (min (6 * (j + 1)) len)) (nI (pdT t j)) (nI (pdK t j)) (nI (pdA t j)) (nI (pdB t j))) F := ⟨m_26o, m_26r0, m_26r1, m_26r2, m_26r3, m_26r4, m_26r5, m_26r6, m_26r7, m_26r8⟩
          exact ih (j + 1) _ _ ls _ (by (try dsimp only); omega) ⟨lv_sub hl [3, 2, 1, 0] rfl, ⟨_, _, _, _, MB_32, ⟨by omega, trivial⟩, (show fSame 239 249 _ _ from (fSame.tr2 (fSame.tr2 (fSame.tr2 fSame.rf hsm (by omega) (by omega)) s_23 (by omega) (by omega)) s_30 (by omega) (by omega)))⟩⟩ hP hS
        · have c_56 := (fb_1 rfl).mp c_56
          refine lv_aload_n hx hb dX8_lookThrough_59 rfl (lv_at hl 1 rfl) ?_
          refine lv_aload_n hx hb dX8_lookThrough_60 rfl (lv_at hl 1 rfl) ?_
          refine fs_get E hP (k := 239) (v := .int (nI (pdK t j))) 16 fc8 m_26o (by omega) (by decide) (wm wl_16 (i := 15) rfl) rfl dX8_lookThrough_61 ?_
          refine lv_aload_n hx hb dX8_lookThrough_64 rfl (lv_at hl 1 rfl) ?_
          refine fs_get E hP (k := 239) (v := .int (nI (pdA t j))) 17 fc8 m_26o (by omega) (by decide) (wm wl_16 (i := 16) rfl) rfl dX8_lookThrough_65 ?_
          refine lv_aload_n hx hb dX8_lookThrough_68 rfl (lv_at hl 1 rfl) ?_
          refine fs_get E hP (k := 239) (v := .int (nI (pdB t j))) 18 fc8 m_26o (by omega) (by decide) (wm wl_16 (i := 17) rfl) rfl dX8_lookThrough_69 ?_
          have MB_33 : MA g ct_25 (mkz (z 0) (z 1) (z 2) (z 3) (z 4) (nI (min (6 * (j + 1)) len)) (nI (pdT t j)) (nI (pdK t j)) (nI (pdA t j)) (nI (pdB t j))) F := ⟨m_26o, m_26r0, m_26r1, m_26r2, m_26r3, m_26r4, m_26r5, m_26r6, m_26r7, m_26r8⟩
          refine fs_pi (va_runV (As := [.int (nI (pdK t j)), .int (nI (pdA t j)), .int (nI (pdB t j))]) (rest := []) E.1 (c_X8_suits l g N ct_25 (mkz (z 0) (z 1) (z 2) (z 3) (z 4) (nI (min (6 * (j + 1)) len)) (nI (pdT t j)) (nI (pdK t j)) (nI (pdA t j)) (nI (pdB t j))) F σ (by omega) hG MB_33 hT (nI (pdK t j)) (nI (pdA t j)) (nI (pdB t j))) (lk_RX8_108 E.1.2.2.2.2 ⟨Nat.le_of_ble_eq_true rfl, Nat.le_of_ble_eq_true rfl⟩) (fpreV E hP hS fc8 m_26o (by omega)) rfl rfl hl.1 rfl (lv_room (Nat.le_of_ble_eq_true rfl)) dX8_lookThrough_72 ⟨Nat.zero_le _, Nat.zero_le _⟩) hS (fun r_72 locs p_72 hS => ?_)
          refine lv_if_eq (tgt := 82) hx hb dX8_lookThrough_75 (by decide) (fun c_75 => ?_) (fun c_75 => ?_)
          · have c_75 := (fb_0 p_72).mp c_75
            refine lv_iconst (v := (nI 0)) hx hb dX8_lookThrough_82 (by decide) ?_
            refine fs_vi (y := (bI (∀ i, i < (j + 1) → sux (nB σ) (nI (pdK t i)) (nI (pdA t i)) (nI (pdB t i))))) (bI_f (fun y => c_75 (y j (by omega)))) ?_
            refine lv_istore_n (lv' := [(2, .int (bI (∀ i, i < (j + 1) → sux (nB σ) (nI (pdK t i)) (nI (pdA t i)) (nI (pdB t i))))), (1, .int (bI (∀ i, i < (j + 1) → pdT t i < nB σ))), (0, .ref (fa g 239)), (3, .int (nI j))]) hx hb dX8_lookThrough_83 rfl hl (by decide) rfl (fun ls hl => ?_)
            refine lv_iinc (v := (nI (j + 1))) (lv' := [(3, .int (nI (j + 1))), (2, .int (bI (∀ i, i < (j + 1) → sux (nB σ) (nI (pdK t i)) (nI (pdA t i)) (nI (pdB t i))))), (1, .int (bI (∀ i, i < (j + 1) → pdT t i < nB σ))), (0, .ref (fa g 239))]) hx hb dX8_lookThrough_84 hl (k := 3) rfl (nI_1 _) (by decide) rfl (fun ls hl => ?_)
            refine lv_goto (tgt := 11) hx hb dX8_lookThrough_87 (by decide) ?_
            have MB_34 : MA g ct_25 (mkz (z 0) (z 1) (z 2) (z 3) (z 4) (nI (min (6 * (j + 1)) len)) (nI (pdT t j)) (nI (pdK t j)) (nI (pdA t j)) (nI (pdB t j))) F := ⟨m_26o, m_26r0, m_26r1, m_26r2, m_26r3, m_26r4, m_26r5, m_26r6, m_26r7, m_26r8⟩
            exact ih (j + 1) _ _ ls _ (by (try dsimp only); omega) ⟨lv_sub hl [3, 2, 1, 0] rfl, ⟨_, _, _, _, MB_34, ⟨by omega, trivial⟩, (show fSame 239 249 _ _ from (fSame.tr2 (fSame.tr2 (fSame.tr2 fSame.rf hsm (by omega) (by omega)) s_23 (by omega) (by omega)) s_30 (by omega) (by omega)))⟩⟩ hP hS
          · have c_75 := (fb_1 p_72).mp c_75
            refine lv_iconst (v := (nI 1)) hx hb dX8_lookThrough_78 (by decide) ?_
            refine lv_goto (tgt := 83) hx hb dX8_lookThrough_79 (by decide) ?_
            refine fs_vi (y := (bI (∀ i, i < (j + 1) → sux (nB σ) (nI (pdK t i)) (nI (pdA t i)) (nI (pdB t i))))) (bI_t (fun i hi => if y : i = j then (by subst y; exact c_75) else c_56 i (by omega))) ?_
            refine lv_istore_n (lv' := [(2, .int (bI (∀ i, i < (j + 1) → sux (nB σ) (nI (pdK t i)) (nI (pdA t i)) (nI (pdB t i))))), (1, .int (bI (∀ i, i < (j + 1) → pdT t i < nB σ))), (0, .ref (fa g 239)), (3, .int (nI j))]) hx hb dX8_lookThrough_83 rfl hl (by decide) rfl (fun ls hl => ?_)
            refine lv_iinc (v := (nI (j + 1))) (lv' := [(3, .int (nI (j + 1))), (2, .int (bI (∀ i, i < (j + 1) → sux (nB σ) (nI (pdK t i)) (nI (pdA t i)) (nI (pdB t i))))), (1, .int (bI (∀ i, i < (j + 1) → pdT t i < nB σ))), (0, .ref (fa g 239))]) hx hb dX8_lookThrough_84 hl (k := 3) rfl (nI_1 _) (by decide) rfl (fun ls hl => ?_)
            refine lv_goto (tgt := 11) hx hb dX8_lookThrough_87 (by decide) ?_
            have MB_35 : MA g ct_25 (mkz (z 0) (z 1) (z 2) (z 3) (z 4) (nI (min (6 * (j + 1)) len)) (nI (pdT t j)) (nI (pdK t j)) (nI (pdA t j)) (nI (pdB t j))) F := ⟨m_26o, m_26r0, m_26r1, m_26r2, m_26r3, m_26r4, m_26r5, m_26r6, m_26r7, m_26r8⟩
            exact ih (j + 1) _ _ ls _ (by (try dsimp only); omega) ⟨lv_sub hl [3, 2, 1, 0] rfl, ⟨_, _, _, _, MB_35, ⟨by omega, trivial⟩, (show fSame 239 249 _ _ from (fSame.tr2 (fSame.tr2 (fSame.tr2 fSame.rf hsm (by omega) (by omega)) s_23 (by omega) (by omega)) s_30 (by omega) (by omega)))⟩⟩ hP hS
      · have c_46 := (fb_1 p_43).mp c_46
        refine lv_iconst (v := (nI 1)) hx hb dX8_lookThrough_49 (by decide) ?_
        refine lv_goto (tgt := 54) hx hb dX8_lookThrough_50 (by decide) ?_
        refine fs_vi (y := (bI (∀ i, i < (j + 1) → pdT t i < nB σ))) (bI_t (fun i hi => if y : i = j then (by subst y; exact hb_n (by omega) c_46) else c_35 i (by omega))) ?_
        refine lv_istore_n (lv' := [(1, .int (bI (∀ i, i < (j + 1) → pdT t i < nB σ))), (0, .ref (fa g 239)), (2, .int (bI (∀ i, i < j → sux (nB σ) (nI (pdK t i)) (nI (pdA t i)) (nI (pdB t i))))), (3, .int (nI j))]) hx hb dX8_lookThrough_54 rfl hl (by decide) rfl (fun ls hl => ?_)
        refine lv_iload_n hx hb dX8_lookThrough_55 rfl (lv_at hl 2 rfl) ?_
        refine lv_if_eq (tgt := 82) hx hb dX8_lookThrough_56 (by decide) (fun c_56 => ?_) (fun c_56 => ?_)
        · have c_56 := (fb_0 rfl).mp c_56
          refine lv_iconst (v := (nI 0)) hx hb dX8_lookThrough_82 (by decide) ?_
          refine fs_vi (y := (bI (∀ i, i < (j + 1) → sux (nB σ) (nI (pdK t i)) (nI (pdA t i)) (nI (pdB t i))))) (bI_f (fun y => c_56 (fun i hi => y i (by omega)))) ?_
          refine lv_istore_n (lv' := [(2, .int (bI (∀ i, i < (j + 1) → sux (nB σ) (nI (pdK t i)) (nI (pdA t i)) (nI (pdB t i))))), (1, .int (bI (∀ i, i < (j + 1) → pdT t i < nB σ))), (0, .ref (fa g 239)), (3, .int (nI j))]) hx hb dX8_lookThrough_83 rfl hl (by decide) rfl (fun ls hl => ?_)
          refine lv_iinc (v := (nI (j + 1))) (lv' := [(3, .int (nI (j + 1))), (2, .int (bI (∀ i, i < (j + 1) → sux (nB σ) (nI (pdK t i)) (nI (pdA t i)) (nI (pdB t i))))), (1, .int (bI (∀ i, i < (j + 1) → pdT t i < nB σ))), (0, .ref (fa g 239))]) hx hb dX8_lookThrough_84 hl (k := 3) rfl (nI_1 _) (by decide) rfl (fun ls hl => ?_)
          refine lv_goto (tgt := 11) hx hb dX8_lookThrough_87 (by decide) ?_
          have MB_36 : MA g ct_25 (mkz (z 0) (z 1) (z 2) (z 3) (z 4) (nI (min (6 * (j + 1)) len)) (nI (pdT t j)) (nI (pdK t j)) (nI (pdA t j)) (nI (pdB t j))) F := ⟨m_26o, m_26r0, m_26r1, m_26r2, m_26r3, m_26r4, m_26r5, m_26r6, m_26r7, m_26r8⟩
          exact ih (j + 1) _ _ ls _ (by (try dsimp only); omega) ⟨lv_sub hl [3, 2, 1, 0] rfl, ⟨_, _, _, _, MB_36, ⟨by omega, trivial⟩, (show fSame 239 249 _ _ from (fSame.tr2 (fSame.tr2 (fSame.tr2 fSame.rf hsm (by omega) (by omega)) s_23 (by omega) (by omega)) s_30 (by omega) (by omega)))⟩⟩ hP hS
        · have c_56 := (fb_1 rfl).mp c_56
          refine lv_aload_n hx hb dX8_lookThrough_59 rfl (lv_at hl 1 rfl) ?_
          refine lv_aload_n hx hb dX8_lookThrough_60 rfl (lv_at hl 1 rfl) ?_
          refine fs_get E hP (k := 239) (v := .int (nI (pdK t j))) 16 fc8 m_26o (by omega) (by decide) (wm wl_16 (i := 15) rfl) rfl dX8_lookThrough_61 ?_
          refine lv_aload_n hx hb dX8_lookThrough_64 rfl (lv_at hl 1 rfl) ?_
          refine fs_get E hP (k := 239) (v := .int (nI (pdA t j))) 17 fc8 m_26o (by omega) (by decide) (wm wl_16 (i := 16) rfl) rfl dX8_lookThrough_65 ?_
          refine lv_aload_n hx hb dX8_lookThrough_68 rfl (lv_at hl 1 rfl) ?_
          refine fs_get E hP (k := 239) (v := .int (nI (pdB t j))) 18 fc8 m_26o (by omega) (by decide) (wm wl_16 (i := 17) rfl) rfl dX8_lookThrough_69 ?_
          have MB_37 : MA g ct_25 (mkz (z 0) (z 1) (z 2) (z 3) (z 4) (nI (min (6 * (j + 1)) len)) (nI (pdT t j)) (nI (pdK t j)) (nI (pdA t j)) (nI (pdB t j))) F := ⟨m_26o, m_26r0, m_26r1, m_26r2, m_26r3, m_26r4, m_26r5, m_26r6, m_26r7, m_26r8⟩
          refine fs_pi (va_runV (As := [.int (nI (pdK t j)), .int (nI (pdA t j)), .int (nI (pdB t j))]) (rest := []) E.1 (c_X8_suits l g N ct_25 (mkz (z 0) (z 1) (z 2) (z 3) (z 4) (nI (min (6 * (j + 1)) len)) (nI (pdT t j)) (nI (pdK t j)) (nI (pdA t j)) (nI (pdB t j))) F σ (by omega) hG MB_37 hT (nI (pdK t j)) (nI (pdA t j)) (nI (pdB t j))) (lk_RX8_108 E.1.2.2.2.2 ⟨Nat.le_of_ble_eq_true rfl, Nat.le_of_ble_eq_true rfl⟩) (fpreV E hP hS fc8 m_26o (by omega)) rfl rfl hl.1 rfl (lv_room (Nat.le_of_ble_eq_true rfl)) dX8_lookThrough_72 ⟨Nat.zero_le _, Nat.zero_le _⟩) hS (fun r_72 locs p_72 hS => ?_)
          refine lv_if_eq (tgt := 82) hx hb dX8_lookThrough_75 (by decide) (fun c_75 => ?_) (fun c_75 => ?_)
          · have c_75 := (fb_0 p_72).mp c_75
            refine lv_iconst (v := (nI 0)) hx hb dX8_lookThrough_82 (by decide) ?_
            refine fs_vi (y := (bI (∀ i, i < (j + 1) → sux (nB σ) (nI (pdK t i)) (nI (pdA t i)) (nI (pdB t i))))) (bI_f (fun y => c_75 (y j (by omega)))) ?_
            refine lv_istore_n (lv' := [(2, .int (bI (∀ i, i < (j + 1) → sux (nB σ) (nI (pdK t i)) (nI (pdA t i)) (nI (pdB t i))))), (1, .int (bI (∀ i, i < (j + 1) → pdT t i < nB σ))), (0, .ref (fa g 239)), (3, .int (nI j))]) hx hb dX8_lookThrough_83 rfl hl (by decide) rfl (fun ls hl => ?_)
            refine lv_iinc (v := (nI (j + 1))) (lv' := [(3, .int (nI (j + 1))), (2, .int (bI (∀ i, i < (j + 1) → sux (nB σ) (nI (pdK t i)) (nI (pdA t i)) (nI (pdB t i))))), (1, .int (bI (∀ i, i < (j + 1) → pdT t i < nB σ))), (0, .ref (fa g 239))]) hx hb dX8_lookThrough_84 hl (k := 3) rfl (nI_1 _) (by decide) rfl (fun ls hl => ?_)
            refine lv_goto (tgt := 11) hx hb dX8_lookThrough_87 (by decide) ?_
            have MB_38 : MA g ct_25 (mkz (z 0) (z 1) (z 2) (z 3) (z 4) (nI (min (6 * (j + 1)) len)) (nI (pdT t j)) (nI (pdK t j)) (nI (pdA t j)) (nI (pdB t j))) F := ⟨m_26o, m_26r0, m_26r1, m_26r2, m_26r3, m_26r4, m_26r5, m_26r6, m_26r7, m_26r8⟩
            exact ih (j + 1) _ _ ls _ (by (try dsimp only); omega) ⟨lv_sub hl [3, 2, 1, 0] rfl, ⟨_, _, _, _, MB_38, ⟨by omega, trivial⟩, (show fSame 239 249 _ _ from (fSame.tr2 (fSame.tr2 (fSame.tr2 fSame.rf hsm (by omega) (by omega)) s_23 (by omega) (by omega)) s_30 (by omega) (by omega)))⟩⟩ hP hS
          · have c_75 := (fb_1 p_72).mp c_75
            refine lv_iconst (v := (nI 1)) hx hb dX8_lookThrough_78 (by decide) ?_
            refine lv_goto (tgt := 83) hx hb dX8_lookThrough_79 (by decide) ?_
            refine fs_vi (y := (bI (∀ i, i < (j + 1) → sux (nB σ) (nI (pdK t i)) (nI (pdA t i)) (nI (pdB t i))))) (bI_t (fun i hi => if y : i = j then (by subst y; exact c_75) else c_56 i (by omega))) ?_
            refine lv_istore_n (lv' := [(2, .int (bI (∀ i, i < (j + 1) → sux (nB σ) (nI (pdK t i)) (nI (pdA t i)) (nI (pdB t i))))), (1, .int (bI (∀ i, i < (j + 1) → pdT t i < nB σ))), (0, .ref (fa g 239)), (3, .int (nI j))]) hx hb dX8_lookThrough_83 rfl hl (by decide) rfl (fun ls hl => ?_)
            refine lv_iinc (v := (nI (j + 1))) (lv' := [(3, .int (nI (j + 1))), (2, .int (bI (∀ i, i < (j + 1) → sux (nB σ) (nI (pdK t i)) (nI (pdA t i)) (nI (pdB t i))))), (1, .int (bI (∀ i, i < (j + 1) → pdT t i < nB σ))), (0, .ref (fa g 239))]) hx hb dX8_lookThrough_84 hl (k := 3) rfl (nI_1 _) (by decide) rfl (fun ls hl => ?_)
            refine lv_goto (tgt := 11) hx hb dX8_lookThrough_87 (by decide) ?_
            have MB_39 : MA g ct_25 (mkz (z 0) (z 1) (z 2) (z 3) (z 4) (nI (min (6 * (j + 1)) len)) (nI (pdT t j)) (nI (pdK t j)) (nI (pdA t j)) (nI (pdB t j))) F := ⟨m_26o, m_26r0, m_26r1, m_26r2, m_26r3, m_26r4, m_26r5, m_26r6, m_26r7, m_26r8⟩
            exact ih (j + 1) _ _ ls _ (by (try dsimp only); omega) ⟨lv_sub hl [3, 2, 1, 0] rfl, ⟨_, _, _, _, MB_39, ⟨by omega, trivial⟩, (show fSame 239 249 _ _ from (fSame.tr2 (fSame.tr2 (fSame.tr2 fSame.rf hsm (by omega) (by omega)) s_23 (by omega) (by omega)) s_30 (by omega) (by omega)))⟩⟩ hP hS
