set_option maxRecDepth 100000 in
set_option maxHeartbeats 4000000 in
theorem c_X8_save (l : Launch) (g : fG) (N : Nat) (ct : Nat → va_E) (σ : Nat → Int32) (k : Nat) (hs : Nat → Nat → Int32) (u1 : Bool) (s1 : Nat → Int32) (u2 : Bool) (s2 : Nat → Int32) (t : Nat → Nat) (len : Nat) (hN : 249 ≤ N) (hG : Good σ) (hR : RFAt g ct σ k hs u1 s1 u2 s2 t len) (x : Int32) : Met l yX8_save (wsU yX8_save cX8_save 2 (some .int)) rX8_save (fPre g N ct [.ref (fa g 239), .int x]) (fQi g N (fun r ct1 => r = (if x = nI 0 ∨ x = nI 1 then nI (nT σ) else -2) ∧ RFAt g ct1 σ k hs (if x = nI 0 then true else u1) (if x = nI 0 then σ else s1) (if x = nI 1 then true else u2) (if x = nI 1 then σ else s2) t len ∧ fSame 239 249 ct ct1)) 0 0 (fB g) := by
  refine fs_start (own := RX8) (lv0 := [(0, .ref (fa g 239)), (1, .int x)]) (by decide) rfl (Nat.le_of_ble_eq_true rfl) rfl ?_
  intro p e s m args below meth c ls E hr hlk hnm hP hl hS
  have hx := E.1.1
  have hb := E.1.2.1
  obtain ⟨z, F, hM, hT, hH, hS9, hQ⟩ := id hR
  have m_1o : ct 239 = .inr (8, [.ref (fa g 240), .ref (fa g 241), .int (z 0), .ref (fa g 242), .ref (fa g 243), .ref (fa g 244), .int (z 1), .ref (fa g 245), .int (z 2), .ref (fa g 246), .ref (fa g 247), .ref (fa g 248), .int (z 3), .int (z 4), .int (z 5), .int (z 6), .int (z 7), .int (z 8), .int (z 9)]) := (hM).1
  have m_1r0 : ct 240 = .inl (fcI g, 121, .inl (F 0)) := (hM).2.1
  have m_1r1 : ct 241 = .inl (fcI g, 726, .inl (F 1)) := (hM).2.2.1
  have m_1r2 : ct 242 = .inl (fcI g, 242, .inl (F 2)) := (hM).2.2.2.1
  have m_1r3 : ct 243 = .inl (fcI g, 2, .inl (F 3)) := (hM).2.2.2.2.1
  have m_1r4 : ct 244 = .inl (fcI g, 60, .inl (F 4)) := (hM).2.2.2.2.2.1
  have m_1r5 : ct 245 = .inl (fcI g, 6, .inl (F 5)) := (hM).2.2.2.2.2.2.1
  have m_1r6 : ct 246 = .inl (fcI g, 36, .inl (F 6)) := (hM).2.2.2.2.2.2.2.1
  have m_1r7 : ct 247 = .inl (fcI g, 20, .inl (F 7)) := (hM).2.2.2.2.2.2.2.2.1
  have m_1r8 : ct 248 = .inl (fcI g, 20, .inl (F 8)) := (hM).2.2.2.2.2.2.2.2.2
  have hn3 := hG.n3
  have hn6 := hG.n6
  have hk20 := hG.k
  refine lv_iload_n hx hb dX8_save_0 rfl (lv_at hl 1 rfl) ?_
  refine lv_iconst (v := (nI 0)) hx hb dX8_save_1 (by decide) ?_
  refine lv_iconst (v := (nI 1)) hx hb dX8_save_2 (by decide) ?_
  refine fs_pi (va_runS (As := [.int x, .int (nI 0), .int (nI 1)]) (rest := []) E.1 (c_X8_within l g N ct x (nI 0) (nI 1)) (lk_RX8_49 E.1.2.2.2.2 ⟨Nat.le_of_ble_eq_true rfl, Nat.le_of_ble_eq_true rfl⟩) (fpreS E hP hS) rfl rfl hl.1 rfl (lv_room (Nat.le_of_ble_eq_true rfl)) dX8_save_3 ⟨Nat.zero_le _, Nat.zero_le _⟩) hS (fun r_3 locs p_3 hS => ?_)
  refine lv_if_ne (tgt := 12) hx hb dX8_save_6 (by decide) (fun c_6 => ?_) (fun c_6 => ?_)
  · have c_6 := (fb_1 p_3).mp c_6
    have hx01 : x = nI 0 ∨ x = nI 1 := (w01.mp c_6).imp (fun y => y.trans (by decide)) id
    rcases hx01 with rfl | rfl
    · refine lv_aload_n hx hb dX8_save_12 rfl (lv_at hl 0 rfl) ?_
      refine fs_get E hP (k := 239) (v := .ref (fa g 240)) 0 fc8 m_1o (by omega) (by decide) (wm wl_5 (i := 0) rfl) rfl dX8_save_13 ?_
      refine lv_iconst (v := (nI 0)) hx hb dX8_save_16 (by decide) ?_
      refine lv_aload_n hx hb dX8_save_17 rfl (lv_at hl 0 rfl) ?_
      refine fs_get E hP (k := 239) (v := .ref (fa g 242)) 3 fc8 m_1o (by omega) (by decide) (wm wl_5 (i := 2) rfl) rfl dX8_save_18 ?_
      refine lv_bipush (v := (nI 121)) hx hb dX8_save_21 (by decide) ?_
      refine lv_iload_n hx hb dX8_save_23 rfl (lv_at hl 1 rfl) ?_
      refine lv_imul hx hb dX8_save_24 ?_
      refine fs_vi (y := (nI 0)) (by decide) ?_
      refine fs_v (va_runS (As := [.ref (fa g 240), .int (nI 0), .ref (fa g 242), .int (nI 0)]) (rest := []) E.1 (c_X8_moves l g N ct 240 242 121 242 0 0 (F 0) (F 2) (by omega) (by omega) (by omega) (by omega) (by omega) (by omega) (by omega) m_1r0 m_1r2) (lk_RX8_45 E.1.2.2.2.2 ⟨Nat.le_of_ble_eq_true rfl, Nat.le_of_ble_eq_true rfl⟩) (fpreS E hP hS) rfl rfl hl.1 rfl (lv_room (Nat.le_of_ble_eq_true rfl)) dX8_save_25 ⟨Nat.zero_le _, Nat.zero_le _⟩) hS (fun ct_2 H locs p_25 hP hS => ?_)
      have h_3 : ct_2 239 = .inr (8, [.ref (fa g 240), .ref (fa g 241), .int (z 0), .ref (fa g 242), .ref (fa g 243), .ref (fa g 244), .int (z 1), .ref (fa g 245), .int (z 2), .ref (fa g 246), .ref (fa g 247), .ref (fa g 248), .int (z 3), .int (z 4), .int (z 5), .int (z 6), .int (z 7), .int (z 8), .int (z 9)]) := by rw [p_25]; exact (fu_ne (by omega)).trans m_1o
      have h_4 : ct_2 240 = .inl (fcI g, 121, .inl (F 0)) := by rw [p_25]; exact (fu_ne (by omega)).trans m_1r0
      have h_5 : ct_2 241 = .inl (fcI g, 726, .inl (F 1)) := by rw [p_25]; exact (fu_ne (by omega)).trans m_1r1
      have h_6 : ct_2 242 = .inl (fcI g, 242, .inl (mvF (F 0) (F 2) 0 0 121)) := by rw [p_25]; exact fu_eq _ _ _
      have h_7 : ct_2 243 = .inl (fcI g, 2, .inl (F 3)) := by rw [p_25]; exact (fu_ne (by omega)).trans m_1r3
      have h_8 : ct_2 244 = .inl (fcI g, 60, .inl (F 4)) := by rw [p_25]; exact (fu_ne (by omega)).trans m_1r4
      have h_9 : ct_2 245 = .inl (fcI g, 6, .inl (F 5)) := by rw [p_25]; exact (fu_ne (by omega)).trans m_1r5
      have h_10 : ct_2 246 = .inl (fcI g, 36, .inl (F 6)) := by rw [p_25]; exact (fu_ne (by omega)).trans m_1r6
      have h_11 : ct_2 247 = .inl (fcI g, 20, .inl (F 7)) := by rw [p_25]; exact (fu_ne (by omega)).trans m_1r7
      have h_12 : ct_2 248 = .inl (fcI g, 20, .inl (F 8)) := by rw [p_25]; exact (fu_ne (by omega)).trans m_1r8
      refine lv_aload_n hx hb dX8_save_28 rfl (lv_at hl 0 rfl) ?_
      refine fs_get E hP (k := 239) (v := .ref (fa g 243)) 4 fc8 h_3 (by omega) (by decide) (wm wl_5 (i := 3) rfl) rfl dX8_save_29 ?_
      refine lv_iload_n hx hb dX8_save_32 rfl (lv_at hl 1 rfl) ?_
      refine lv_iconst (v := (nI 1)) hx hb dX8_save_33 (by decide) ?_
      refine fs_iast E hP hS (k := 243) h_7 (by omega) (vp_in_nI (by omega) (by omega)) dX8_save_34 (fun ct_13 H locs q_14 hP hS => ?_)
      rw [nI_clamp (by omega)] at q_14
      have h_15 : ct_13 239 = .inr (8, [.ref (fa g 240), .ref (fa g 241), .int (z 0), .ref (fa g 242), .ref (fa g 243), .ref (fa g 244), .int (z 1), .ref (fa g 245), .int (z 2), .ref (fa g 246), .ref (fa g 247), .ref (fa g 248), .int (z 3), .int (z 4), .int (z 5), .int (z 6), .int (z 7), .int (z 8), .int (z 9)]) := by rw [q_14]; exact (fu_ne (by omega)).trans h_3
      have h_16 : ct_13 240 = .inl (fcI g, 121, .inl (F 0)) := by rw [q_14]; exact (fu_ne (by omega)).trans h_4
      have h_17 : ct_13 241 = .inl (fcI g, 726, .inl (F 1)) := by rw [q_14]; exact (fu_ne (by omega)).trans h_5
      have h_18 : ct_13 242 = .inl (fcI g, 242, .inl (mvF (F 0) (F 2) 0 0 121)) := by rw [q_14]; exact (fu_ne (by omega)).trans h_6
      have h_19 : ct_13 243 = .inl (fcI g, 2, .inl (upd (F 3) 0 (nI 1))) := by rw [q_14]; exact fu_eq _ _ _
      have h_20 : ct_13 244 = .inl (fcI g, 60, .inl (F 4)) := by rw [q_14]; exact (fu_ne (by omega)).trans h_8
      have h_21 : ct_13 245 = .inl (fcI g, 6, .inl (F 5)) := by rw [q_14]; exact (fu_ne (by omega)).trans h_9
      have h_22 : ct_13 246 = .inl (fcI g, 36, .inl (F 6)) := by rw [q_14]; exact (fu_ne (by omega)).trans h_10
      have h_23 : ct_13 247 = .inl (fcI g, 20, .inl (F 7)) := by rw [q_14]; exact (fu_ne (by omega)).trans h_11
      have h_24 : ct_13 248 = .inl (fcI g, 20, .inl (F 8)) := by rw [q_14]; exact (fu_ne (by omega)).trans h_12
      refine lv_aload_n hx hb dX8_save_35 rfl (lv_at hl 0 rfl) ?_
      refine fs_get E hP (k := 239) (v := .ref (fa g 240)) 0 fc8 h_15 (by omega) (by decide) (wm wl_5 (i := 0) rfl) rfl dX8_save_36 ?_
      refine lv_iconst (v := (nI 1)) hx hb dX8_save_39 (by decide) ?_
      refine fs_iald E hP (k := 240) h_16 (by omega) (vp_in_nI (by omega) (by omega)) dX8_save_40 ?_
      refine fs_vi (y := (F 0) 1) (congrArg (F 0) (nI_clamp (by omega))) ?_
      refine fs_vi (y := (nI (nT σ))) (hT.k hG) ?_
      have MA8 : MA g ct_13 (mkz (z 0) (z 1) (z 2) (z 3) (z 4) (z 5) (z 6) (z 7) (z 8) (z 9)) (mkF (F 0) (F 1) (mvF (F 0) (F 2) 0 0 121) (upd (F 3) 0 (nI 1)) (F 4) (F 5) (F 6) (F 7) (F 8)) := ⟨h_15, h_16, h_17, h_18, h_19, h_20, h_21, h_22, h_23, h_24⟩
      refine fs_iret E hr hlk hP hS dX8_save_41 ?_
      refine ⟨(if_pos (Or.inl rfl)).symm, ?_, (show fSame 239 249 _ _ from (fSame.ap (fSame.ap fSame.rf p_25 (by omega) (by omega)) q_14 (by omega) (by omega)))⟩
      rw [if_pos rfl, if_pos rfl, if_neg nI01, if_neg nI01]
      exact ⟨_, _, MA8, hT, hH, ⟨upd_eq _ _ _, (upd_ne (by omega)).trans hS9.2.1, fun _ j hj => (by have e1 := mvF_in (fa := F 0) (fb := F 2) (p := 0) (q := 0) hj; rw [Nat.zero_add] at e1; exact e1.trans (hT j hj)), fun h j hj => (mvF_out (by omega)).trans (hS9.2.2.2 h j hj)⟩, hQ⟩
    · refine lv_aload_n hx hb dX8_save_12 rfl (lv_at hl 0 rfl) ?_
      refine fs_get E hP (k := 239) (v := .ref (fa g 240)) 0 fc8 m_1o (by omega) (by decide) (wm wl_5 (i := 0) rfl) rfl dX8_save_13 ?_
      refine lv_iconst (v := (nI 0)) hx hb dX8_save_16 (by decide) ?_
      refine lv_aload_n hx hb dX8_save_17 rfl (lv_at hl 0 rfl) ?_
      refine fs_get E hP (k := 239) (v := .ref (fa g 242)) 3 fc8 m_1o (by omega) (by decide) (wm wl_5 (i := 2) rfl) rfl dX8_save_18 ?_
      refine lv_bipush (v := (nI 121)) hx hb dX8_save_21 (by decide) ?_
      refine lv_iload_n hx hb dX8_save_23 rfl (lv_at hl 1 rfl) ?_
      refine lv_imul hx hb dX8_save_24 ?_
      refine fs_vi (y := (nI 121)) (by decide) ?_
      refine fs_v (va_runS (As := [.ref (fa g 240), .int (nI 0), .ref (fa g 242), .int (nI 121)]) (rest := []) E.1 (c_X8_moves l g N ct 240 242 121 242 0 121 (F 0) (F 2) (by omega) (by omega) (by omega) (by omega) (by omega) (by omega) (by omega) m_1r0 m_1r2) (lk_RX8_45 E.1.2.2.2.2 ⟨Nat.le_of_ble_eq_true rfl, Nat.le_of_ble_eq_true rfl⟩) (fpreS E hP hS) rfl rfl hl.1 rfl (lv_room (Nat.le_of_ble_eq_true rfl)) dX8_save_25 ⟨Nat.zero_le _, Nat.zero_le _⟩) hS (fun ct_25 H locs p_25 hP hS => ?_)
      have h_26 : ct_25 239 = .inr (8, [.ref (fa g 240), .ref (fa g 241), .int (z 0), .ref (fa g 242), .ref (fa g 243), .ref (fa g 244), .int (z 1), .ref (fa g 245), .int (z 2), .ref (fa g 246), .ref (fa g 247), .ref (fa g 248), .int (z 3), .int (z 4), .int (z 5), .int (z 6), .int (z 7), .int (z 8), .int (z 9)]) := by rw [p_25]; exact (fu_ne (by omega)).trans m_1o
      have h_27 : ct_25 240 = .inl (fcI g, 121, .inl (F 0)) := by rw [p_25]; exact (fu_ne (by omega)).trans m_1r0
      have h_28 : ct_25 241 = .inl (fcI g, 726, .inl (F 1)) := by rw [p_25]; exact (fu_ne (by omega)).trans m_1r1
      have h_29 : ct_25 242 = .inl (fcI g, 242, .inl (mvF (F 0) (F 2) 0 121 121)) := by rw [p_25]; exact fu_eq _ _ _
      have h_30 : ct_25 243 = .inl (fcI g, 2, .inl (F 3)) := by rw [p_25]; exact (fu_ne (by omega)).trans m_1r3
      have h_31 : ct_25 244 = .inl (fcI g, 60, .inl (F 4)) := by rw [p_25]; exact (fu_ne (by omega)).trans m_1r4
      have h_32 : ct_25 245 = .inl (fcI g, 6, .inl (F 5)) := by rw [p_25]; exact (fu_ne (by omega)).trans m_1r5
      have h_33 : ct_25 246 = .inl (fcI g, 36, .inl (F 6)) := by rw [p_25]; exact (fu_ne (by omega)).trans m_1r6
      have h_34 : ct_25 247 = .inl (fcI g, 20, .inl (F 7)) := by rw [p_25]; exact (fu_ne (by omega)).trans m_1r7
      have h_35 : ct_25 248 = .inl (fcI g, 20, .inl (F 8)) := by rw [p_25]; exact (fu_ne (by omega)).trans m_1r8
      refine lv_aload_n hx hb dX8_save_28 rfl (lv_at hl 0 rfl) ?_
      refine fs_get E hP (k := 239) (v := .ref (fa g 243)) 4 fc8 h_26 (by omega) (by decide) (wm wl_5 (i := 3) rfl) rfl dX8_save_29 ?_
      refine lv_iload_n hx hb dX8_save_32 rfl (lv_at hl 1 rfl) ?_
      refine lv_iconst (v := (nI 1)) hx hb dX8_save_33 (by decide) ?_
      refine fs_iast E hP hS (k := 243) h_30 (by omega) (vp_in_nI (by omega) (by omega)) dX8_save_34 (fun ct_36 H locs q_37 hP hS => ?_)
      rw [nI_clamp (by omega)] at q_37
      have h_38 : ct_36 239 = .inr (8, [.ref (fa g 240), .ref (fa g 241), .int (z 0), .ref (fa g 242), .ref (fa g 243), .ref (fa g 244), .int (z 1), .ref (fa g 245), .int (z 2), .ref (fa g 246), .ref (fa g 247), .ref (fa g 248), .int (z 3), .int (z 4), .int (z 5), .int (z 6), .int (z 7), .int (z 8), .int (z 9)]) := by rw [q_37]; exact (fu_ne (by omega)).trans h_26
      have h_39 : ct_36 240 = .inl (fcI g, 121, .inl (F 0)) := by rw [q_37]; exact (fu_ne (by omega)).trans h_27
      have h_40 : ct_36 241 = .inl (fcI g, 726, .inl (F 1)) := by rw [q_37]; exact (fu_ne (by omega)).trans h_28
      have h_41 : ct_36 242 = .inl (fcI g, 242, .inl (mvF (F 0) (F 2) 0 121 121)) := by rw [q_37]; exact (fu_ne (by omega)).trans h_29
      have h_42 : ct_36 243 = .inl (fcI g, 2, .inl (upd (F 3) 1 (nI 1))) := by rw [q_37]; exact fu_eq _ _ _
      have h_43 : ct_36 244 = .inl (fcI g, 60, .inl (F 4)) := by rw [q_37]; exact (fu_ne (by omega)).trans h_31
      have h_44 : ct_36 245 = .inl (fcI g, 6, .inl (F 5)) := by rw [q_37]; exact (fu_ne (by omega)).trans h_32
      have h_45 : ct_36 246 = .inl (fcI g, 36, .inl (F 6)) := by rw [q_37]; exact (fu_ne (by omega)).trans h_33
      have h_46 : ct_36 247 = .inl (fcI g, 20, .inl (F 7)) := by rw [q_37]; exact (fu_ne (by omega)).trans h_34
      have h_47 : ct_36 248 = .inl (fcI g, 20, .inl (F 8)) := by rw [q_37]; exact (fu_ne (by omega)).trans h_35
      refine lv_aload_n hx hb dX8_save_35 rfl (lv_at hl 0 rfl) ?_
      refine fs_get E hP (k := 239) (v := .ref (fa g 240)) 0 fc8 h_38 (by omega) (by decide) (wm wl_5 (i := 0) rfl) rfl dX8_save_36 ?_
      refine lv_iconst (v := (nI 1)) hx hb dX8_save_39 (by decide) ?_
      refine fs_iald E hP (k := 240) h_39 (by omega) (vp_in_nI (by omega) (by omega)) dX8_save_40 ?_
      refine fs_vi (y := (F 0) 1) (congrArg (F 0) (nI_clamp (by omega))) ?_
      refine fs_vi (y := (nI (nT σ))) (hT.k hG) ?_
      have MA8 : MA g ct_36 (mkz (z 0) (z 1) (z 2) (z 3) (z 4) (z 5) (z 6) (z 7) (z 8) (z 9)) (mkF (F 0) (F 1) (mvF (F 0) (F 2) 0 121 121) (upd (F 3) 1 (nI 1)) (F 4) (F 5) (F 6) (F 7) (F 8)) := ⟨h_38, h_39, h_40, h_41, h_42, h_43, h_44, h_45, h_46, h_47⟩
      refine fs_iret E hr hlk hP hS dX8_save_41 ?_
      refine ⟨(if_pos (Or.inr rfl)).symm, ?_, (show fSame 239 249 _ _ from (fSame.ap (fSame.ap fSame.rf p_25 (by omega) (by omega)) q_37 (by omega) (by omega)))⟩
      rw [if_neg nI10, if_neg nI10, if_pos rfl, if_pos rfl]
      exact ⟨_, _, MA8, hT, hH, ⟨(upd_ne (by omega)).trans hS9.1, upd_eq _ _ _, fun h j hj => (mvF_out (by omega)).trans (hS9.2.2.1 h j hj), fun _ j hj => (by have e1 := mvF_in (fa := F 0) (fb := F 2) (p := 0) (q := 121) hj; rw [Nat.zero_add] at e1; exact e1.trans (hT j hj))⟩, hQ⟩
  · have c_6 := (fb_0 p_3).mp c_6
    refine lv_bipush (v := (-2)) hx hb dX8_save_9 (by decide) ?_
    refine fs_iret E hr hlk hP hS dX8_save_11 ?_
    have hx01 : ¬ (x = nI 0 ∨ x = nI 1) := fun y => c_6 (w01.mpr (y.imp (fun y => y.trans (by decide)) id))
    refine ⟨(if_neg hx01).symm, ?_, fSame.rf⟩
    rw [if_neg (fun y => hx01 (Or.inl y)), if_neg (fun y => hx01 (Or.inl y)), if_neg (fun y => hx01 (Or.inr y)), if_neg (fun y => hx01 (Or.inr y))]; exact hR

set_option maxRecDepth 100000 in
set_option maxHeartbeats 4000000 in
theorem c_X8_restore (l : Launch) (g : fG) (N : Nat) (ct : Nat → va_E) (σ : Nat → Int32) (k : Nat) (hs : Nat → Nat → Int32) (u1 : Bool) (s1 : Nat → Int32) (u2 : Bool) (s2 : Nat → Int32) (t : Nat → Nat) (len : Nat) (hN : 249 ≤ N) (hG : Good σ) (hR : RFAt g ct σ k hs u1 s1 u2 s2 t len) (hg1 : u1 = true → Good s1) (hg2 : u2 = true → Good s2) (x : Int32) : Met l yX8_restore (wsU yX8_restore cX8_restore 2 (some .int)) rX8_restore (fPre g N ct [.ref (fa g 239), .int x]) (fQi g N (fun r ct1 => r = (if x = nI 0 then (if u1 = true then nI (nT s1) else -5) else if x = nI 1 then (if u2 = true then nI (nT s2) else -5) else -2) ∧ RFc g ct1 ((x = nI 0 ∧ u1 = true) ∨ (x = nI 1 ∧ u2 = true)) (if x = nI 0 then s1 else s2) σ k hs u1 s1 u2 s2 t len ∧ fSame 239 249 ct ct1)) 0 0 (fB g) := by
  refine fs_start (own := RX8) (lv0 := [(0, .ref (fa g 239)), (1, .int x)]) (by decide) rfl (Nat.le_of_ble_eq_true rfl) rfl ?_
  intro p e s m args below meth c ls E hr hlk hnm hP hl hS
  have hx := E.1.1
  have hb := E.1.2.1
  obtain ⟨z, F, hM, hT, hH, hS9, hQ⟩ := id hR
  have m_1o : ct 239 = .inr (8, [.ref (fa g 240), .ref (fa g 241), .int (z 0), .ref (fa g 242), .ref (fa g 243), .ref (fa g 244), .int (z 1), .ref (fa g 245), .int (z 2), .ref (fa g 246), .ref (fa g 247), .ref (fa g 248), .int (z 3), .int (z 4), .int (z 5), .int (z 6), .int (z 7), .int (z 8), .int (z 9)]) := (hM).1
  have m_1r0 : ct 240 = .inl (fcI g, 121, .inl (F 0)) := (hM).2.1
  have m_1r1 : ct 241 = .inl (fcI g, 726, .inl (F 1)) := (hM).2.2.1
  have m_1r2 : ct 242 = .inl (fcI g, 242, .inl (F 2)) := (hM).2.2.2.1
  have m_1r3 : ct 243 = .inl (fcI g, 2, .inl (F 3)) := (hM).2.2.2.2.1
  have m_1r4 : ct 244 = .inl (fcI g, 60, .inl (F 4)) := (hM).2.2.2.2.2.1
  have m_1r5 : ct 245 = .inl (fcI g, 6, .inl (F 5)) := (hM).2.2.2.2.2.2.1
  have m_1r6 : ct 246 = .inl (fcI g, 36, .inl (F 6)) := (hM).2.2.2.2.2.2.2.1
  have m_1r7 : ct 247 = .inl (fcI g, 20, .inl (F 7)) := (hM).2.2.2.2.2.2.2.2.1
  have m_1r8 : ct 248 = .inl (fcI g, 20, .inl (F 8)) := (hM).2.2.2.2.2.2.2.2.2
  have hn3 := hG.n3
  have hn6 := hG.n6
  have hk20 := hG.k
  refine lv_iload_n hx hb dX8_restore_0 rfl (lv_at hl 1 rfl) ?_
  refine lv_iconst (v := (nI 0)) hx hb dX8_restore_1 (by decide) ?_
  refine lv_iconst (v := (nI 1)) hx hb dX8_restore_2 (by decide) ?_
  refine fs_pi (va_runS (As := [.int x, .int (nI 0), .int (nI 1)]) (rest := []) E.1 (c_X8_within l g N ct x (nI 0) (nI 1)) (lk_RX8_49 E.1.2.2.2.2 ⟨Nat.le_of_ble_eq_true rfl, Nat.le_of_ble_eq_true rfl⟩) (fpreS E hP hS) rfl rfl hl.1 rfl (lv_room (Nat.le_of_ble_eq_true rfl)) dX8_restore_3 ⟨Nat.zero_le _, Nat.zero_le _⟩) hS (fun r_3 locs p_3 hS => ?_)
  refine lv_if_ne (tgt := 12) hx hb dX8_restore_6 (by decide) (fun c_6 => ?_) (fun c_6 => ?_)
  · have c_6 := (fb_1 p_3).mp c_6
    have hx01 : x = nI 0 ∨ x = nI 1 := (w01.mp c_6).imp (fun y => y.trans (by decide)) id
    rcases hx01 with rfl | rfl
    · refine lv_aload_n hx hb dX8_restore_12 rfl (lv_at hl 0 rfl) ?_
      refine fs_get E hP (k := 239) (v := .ref (fa g 243)) 4 fc8 m_1o (by omega) (by decide) (wm wl_5 (i := 3) rfl) rfl dX8_restore_13 ?_
      refine lv_iload_n hx hb dX8_restore_16 rfl (lv_at hl 1 rfl) ?_
      refine fs_iald E hP (k := 243) m_1r3 (by omega) (vp_in_nI (by omega) (by omega)) dX8_restore_17 ?_
      refine fs_vi (y := (F 3) 0) (congrArg (F 3) (nI_clamp (by omega))) ?_
      refine fs_vi (y := (if u1 = true then nI 1 else nI 0)) hS9.1 ?_
      refine lv_if_ne (tgt := 24) hx hb dX8_restore_18 (by decide) (fun c_18 => ?_) (fun c_18 => ?_)
      · have hu : u1 = true := Classical.byContradiction (fun z => c_18 (by rw [if_neg z]; rfl))
        refine lv_aload_n hx hb dX8_restore_24 rfl (lv_at hl 0 rfl) ?_
        refine fs_v (va_runV (As := []) (rest := []) E.1 (c_X8_record l g N ct z F σ (by omega) hG hM hT k hs hH) (lk_RX8_105 E.1.2.2.2.2 ⟨Nat.le_of_ble_eq_true rfl, Nat.le_of_ble_eq_true rfl⟩) (fpreV E hP hS fc8 m_1o (by omega)) rfl rfl hl.1 rfl (lv_room (Nat.le_of_ble_eq_true rfl)) dX8_restore_25 ⟨Nat.zero_le _, Nat.zero_le _⟩) hS (fun ct_2 H locs p_25 hP hS => ?_)
        obtain ⟨z_3, F_4, M5, hRH5, e5, f50, f52, f53, f54, S_5⟩ := p_25
        have T_6 : SR σ F_4 := fun i hi => by rw [f50]; exact hT i hi
        have m_7o : ct_2 239 = .inr (8, [.ref (fa g 240), .ref (fa g 241), .int (z_3 0), .ref (fa g 242), .ref (fa g 243), .ref (fa g 244), .int (z_3 1), .ref (fa g 245), .int (z_3 2), .ref (fa g 246), .ref (fa g 247), .ref (fa g 248), .int (z_3 3), .int (z_3 4), .int (z_3 5), .int (z_3 6), .int (z_3 7), .int (z_3 8), .int (z_3 9)]) := (M5).1
        have m_7r0 : ct_2 240 = .inl (fcI g, 121, .inl (F_4 0)) := (M5).2.1
        have m_7r1 : ct_2 241 = .inl (fcI g, 726, .inl (F_4 1)) := (M5).2.2.1
        have m_7r2 : ct_2 242 = .inl (fcI g, 242, .inl (F_4 2)) := (M5).2.2.2.1
        have m_7r3 : ct_2 243 = .inl (fcI g, 2, .inl (F_4 3)) := (M5).2.2.2.2.1
        have m_7r4 : ct_2 244 = .inl (fcI g, 60, .inl (F_4 4)) := (M5).2.2.2.2.2.1
        have m_7r5 : ct_2 245 = .inl (fcI g, 6, .inl (F_4 5)) := (M5).2.2.2.2.2.2.1
        have m_7r6 : ct_2 246 = .inl (fcI g, 36, .inl (F_4 6)) := (M5).2.2.2.2.2.2.2.1
        have m_7r7 : ct_2 247 = .inl (fcI g, 20, .inl (F_4 7)) := (M5).2.2.2.2.2.2.2.2.1
        have m_7r8 : ct_2 248 = .inl (fcI g, 20, .inl (F_4 8)) := (M5).2.2.2.2.2.2.2.2.2
        refine lv_aload_n hx hb dX8_restore_28 rfl (lv_at hl 0 rfl) ?_
        refine fs_get E hP (k := 239) (v := .ref (fa g 242)) 3 fc8 m_7o (by omega) (by decide) (wm wl_5 (i := 2) rfl) rfl dX8_restore_29 ?_
        refine lv_bipush (v := (nI 121)) hx hb dX8_restore_32 (by decide) ?_
        refine lv_iload_n hx hb dX8_restore_34 rfl (lv_at hl 1 rfl) ?_
        refine lv_imul hx hb dX8_restore_35 ?_
        refine fs_vi (y := (nI 0)) (by decide) ?_
        refine lv_aload_n hx hb dX8_restore_36 rfl (lv_at hl 0 rfl) ?_
        refine fs_get E hP (k := 239) (v := .ref (fa g 240)) 0 fc8 m_7o (by omega) (by decide) (wm wl_5 (i := 0) rfl) rfl dX8_restore_37 ?_
        refine lv_iconst (v := (nI 0)) hx hb dX8_restore_40 (by decide) ?_
        refine fs_v (va_runS (As := [.ref (fa g 242), .int (nI 0), .ref (fa g 240), .int (nI 0)]) (rest := []) E.1 (c_X8_moves l g N ct_2 242 240 242 121 0 0 (F_4 2) (F_4 0) (by omega) (by omega) (by omega) (by omega) (by omega) (by omega) (by omega) m_7r2 m_7r0) (lk_RX8_45 E.1.2.2.2.2 ⟨Nat.le_of_ble_eq_true rfl, Nat.le_of_ble_eq_true rfl⟩) (fpreS E hP hS) rfl rfl hl.1 rfl (lv_room (Nat.le_of_ble_eq_true rfl)) dX8_restore_41 ⟨Nat.zero_le _, Nat.zero_le _⟩) hS (fun ct_8 H locs p_41 hP hS => ?_)
        have h_9 : ct_8 239 = .inr (8, [.ref (fa g 240), .ref (fa g 241), .int (z_3 0), .ref (fa g 242), .ref (fa g 243), .ref (fa g 244), .int (z_3 1), .ref (fa g 245), .int (z_3 2), .ref (fa g 246), .ref (fa g 247), .ref (fa g 248), .int (z_3 3), .int (z_3 4), .int (z_3 5), .int (z_3 6), .int (z_3 7), .int (z_3 8), .int (z_3 9)]) := by rw [p_41]; exact (fu_ne (by omega)).trans m_7o
        have h_10 : ct_8 240 = .inl (fcI g, 121, .inl (mvF (F_4 2) (F_4 0) 0 0 121)) := by rw [p_41]; exact fu_eq _ _ _
        have h_11 : ct_8 241 = .inl (fcI g, 726, .inl (F_4 1)) := by rw [p_41]; exact (fu_ne (by omega)).trans m_7r1
        have h_12 : ct_8 242 = .inl (fcI g, 242, .inl (F_4 2)) := by rw [p_41]; exact (fu_ne (by omega)).trans m_7r2
        have h_13 : ct_8 243 = .inl (fcI g, 2, .inl (F_4 3)) := by rw [p_41]; exact (fu_ne (by omega)).trans m_7r3
        have h_14 : ct_8 244 = .inl (fcI g, 60, .inl (F_4 4)) := by rw [p_41]; exact (fu_ne (by omega)).trans m_7r4
        have h_15 : ct_8 245 = .inl (fcI g, 6, .inl (F_4 5)) := by rw [p_41]; exact (fu_ne (by omega)).trans m_7r5
        have h_16 : ct_8 246 = .inl (fcI g, 36, .inl (F_4 6)) := by rw [p_41]; exact (fu_ne (by omega)).trans m_7r6
        have h_17 : ct_8 247 = .inl (fcI g, 20, .inl (F_4 7)) := by rw [p_41]; exact (fu_ne (by omega)).trans m_7r7
        have h_18 : ct_8 248 = .inl (fcI g, 20, .inl (F_4 8)) := by rw [p_41]; exact (fu_ne (by omega)).trans m_7r8
        have hr8 : ∀ j, j < 121 → mvF (F_4 2) (F_4 0) 0 0 121 j = s1 j := fun j hj => by
          have e1 := mvF_in (fa := F_4 2) (fb := F_4 0) (p := 0) (q := 0) hj
          rw [Nat.zero_add] at e1
          rw [e1, f52]; exact hS9.2.2.1 hu j hj
        have hgs : Good s1 := hg1 hu
        refine lv_aload_n hx hb dX8_restore_44 rfl (lv_at hl 0 rfl) ?_
        refine fs_get E hP (k := 239) (v := .ref (fa g 240)) 0 fc8 h_9 (by omega) (by decide) (wm wl_5 (i := 0) rfl) rfl dX8_restore_45 ?_
        refine lv_iconst (v := (nI 1)) hx hb dX8_restore_48 (by decide) ?_
        refine fs_iald E hP (k := 240) h_10 (by omega) (vp_in_nI (by omega) (by omega)) dX8_restore_49 ?_
        refine fs_vi (y := (mvF (F_4 2) (F_4 0) 0 0 121) 1) (congrArg (mvF (F_4 2) (F_4 0) 0 0 121) (nI_clamp (by omega))) ?_
        refine fs_vi (y := (nI (nT s1))) ((hr8 1 (by omega)).trans hgs.2.1.1) ?_
        have MA8 : MA g ct_8 (mkz (z_3 0) (z_3 1) (z_3 2) (z_3 3) (z_3 4) (z_3 5) (z_3 6) (z_3 7) (z_3 8) (z_3 9)) (mkF (mvF (F_4 2) (F_4 0) 0 0 121) (F_4 1) (F_4 2) (F_4 3) (F_4 4) (F_4 5) (F_4 6) (F_4 7) (F_4 8)) := ⟨h_9, h_10, h_11, h_12, h_13, h_14, h_15, h_16, h_17, h_18⟩
        refine fs_iret E hr hlk hP hS dX8_restore_50 ?_
        refine ⟨?_, ?_, (show fSame 239 249 _ _ from (fSame.ap (fSame.tr2 fSame.rf S_5 (by omega) (by omega)) p_41 (by omega) (by omega)))⟩
        · rw [if_pos rfl, if_pos hu]
        · refine RFc_t (Or.inl ⟨rfl, hu⟩) ?_
          rw [if_pos rfl]
          exact RFAt.ch hS9 hQ MA8 hr8 hRH5 e5 f52 f53 f54
      · have hu : ¬ u1 = true := fun z => absurd c_18 (by rw [if_pos z]; decide)
        refine lv_bipush (v := (-5)) hx hb dX8_restore_21 (by decide) ?_
        refine fs_iret E hr hlk hP hS dX8_restore_23 ?_
        refine ⟨?_, RFc_f (fun z => z.elim (fun y => hu y.2) (fun y => nI01 y.1)) hR, fSame.rf⟩
        rw [if_pos rfl, if_neg hu]
    · refine lv_aload_n hx hb dX8_restore_12 rfl (lv_at hl 0 rfl) ?_
      refine fs_get E hP (k := 239) (v := .ref (fa g 243)) 4 fc8 m_1o (by omega) (by decide) (wm wl_5 (i := 3) rfl) rfl dX8_restore_13 ?_
      refine lv_iload_n hx hb dX8_restore_16 rfl (lv_at hl 1 rfl) ?_
      refine fs_iald E hP (k := 243) m_1r3 (by omega) (vp_in_nI (by omega) (by omega)) dX8_restore_17 ?_
      refine fs_vi (y := (F 3) 1) (congrArg (F 3) (nI_clamp (by omega))) ?_
      refine fs_vi (y := (if u2 = true then nI 1 else nI 0)) hS9.2.1 ?_
      refine lv_if_ne (tgt := 24) hx hb dX8_restore_18 (by decide) (fun c_18 => ?_) (fun c_18 => ?_)
      · have hu : u2 = true := Classical.byContradiction (fun z => c_18 (by rw [if_neg z]; rfl))
        refine lv_aload_n hx hb dX8_restore_24 rfl (lv_at hl 0 rfl) ?_
        refine fs_v (va_runV (As := []) (rest := []) E.1 (c_X8_record l g N ct z F σ (by omega) hG hM hT k hs hH) (lk_RX8_105 E.1.2.2.2.2 ⟨Nat.le_of_ble_eq_true rfl, Nat.le_of_ble_eq_true rfl⟩) (fpreV E hP hS fc8 m_1o (by omega)) rfl rfl hl.1 rfl (lv_room (Nat.le_of_ble_eq_true rfl)) dX8_restore_25 ⟨Nat.zero_le _, Nat.zero_le _⟩) hS (fun ct_19 H locs p_25 hP hS => ?_)
        obtain ⟨z_20, F_21, M5, hRH5, e5, f50, f52, f53, f54, S_22⟩ := p_25
        have T_23 : SR σ F_21 := fun i hi => by rw [f50]; exact hT i hi
        have m_24o : ct_19 239 = .inr (8, [.ref (fa g 240), .ref (fa g 241), .int (z_20 0), .ref (fa g 242), .ref (fa g 243), .ref (fa g 244), .int (z_20 1), .ref (fa g 245), .int (z_20 2), .ref (fa g 246), .ref (fa g 247), .ref (fa g 248), .int (z_20 3), .int (z_20 4), .int (z_20 5), .int (z_20 6), .int (z_20 7), .int (z_20 8), .int (z_20 9)]) := (M5).1
        have m_24r0 : ct_19 240 = .inl (fcI g, 121, .inl (F_21 0)) := (M5).2.1
        have m_24r1 : ct_19 241 = .inl (fcI g, 726, .inl (F_21 1)) := (M5).2.2.1
        have m_24r2 : ct_19 242 = .inl (fcI g, 242, .inl (F_21 2)) := (M5).2.2.2.1
        have m_24r3 : ct_19 243 = .inl (fcI g, 2, .inl (F_21 3)) := (M5).2.2.2.2.1
        have m_24r4 : ct_19 244 = .inl (fcI g, 60, .inl (F_21 4)) := (M5).2.2.2.2.2.1
        have m_24r5 : ct_19 245 = .inl (fcI g, 6, .inl (F_21 5)) := (M5).2.2.2.2.2.2.1
        have m_24r6 : ct_19 246 = .inl (fcI g, 36, .inl (F_21 6)) := (M5).2.2.2.2.2.2.2.1
        have m_24r7 : ct_19 247 = .inl (fcI g, 20, .inl (F_21 7)) := (M5).2.2.2.2.2.2.2.2.1
        have m_24r8 : ct_19 248 = .inl (fcI g, 20, .inl (F_21 8)) := (M5).2.2.2.2.2.2.2.2.2
        refine lv_aload_n hx hb dX8_restore_28 rfl (lv_at hl 0 rfl) ?_
        refine fs_get E hP (k := 239) (v := .ref (fa g 242)) 3 fc8 m_24o (by omega) (by decide) (wm wl_5 (i := 2) rfl) rfl dX8_restore_29 ?_
        refine lv_bipush (v := (nI 121)) hx hb dX8_restore_32 (by decide) ?_
        refine lv_iload_n hx hb dX8_restore_34 rfl (lv_at hl 1 rfl) ?_
        refine lv_imul hx hb dX8_restore_35 ?_
        refine fs_vi (y := (nI 121)) (by decide) ?_
        refine lv_aload_n hx hb dX8_restore_36 rfl (lv_at hl 0 rfl) ?_
        refine fs_get E hP (k := 239) (v := .ref (fa g 240)) 0 fc8 m_24o (by omega) (by decide) (wm wl_5 (i := 0) rfl) rfl dX8_restore_37 ?_
        refine lv_iconst (v := (nI 0)) hx hb dX8_restore_40 (by decide) ?_
        refine fs_v (va_runS (As := [.ref (fa g 242), .int (nI 121), .ref (fa g 240), .int (nI 0)]) (rest := []) E.1 (c_X8_moves l g N ct_19 242 240 242 121 121 0 (F_21 2) (F_21 0) (by omega) (by omega) (by omega) (by omega) (by omega) (by omega) (by omega) m_24r2 m_24r0) (lk_RX8_45 E.1.2.2.2.2 ⟨Nat.le_of_ble_eq_true rfl, Nat.le_of_ble_eq_true rfl⟩) (fpreS E hP hS) rfl rfl hl.1 rfl (lv_room (Nat.le_of_ble_eq_true rfl)) dX8_restore_41 ⟨Nat.zero_le _, Nat.zero_le _⟩) hS (fun ct_25 H locs p_41 hP hS => ?_)
        have h_26 : ct_25 239 = .inr (8, [.ref (fa g 240), .ref (fa g 241), .int (z_20 0), .ref (fa g 242), .ref (fa g 243), .ref (fa g 244), .int (z_20 1), .ref (fa g 245), .int (z_20 2), .ref (fa g 246), .ref (fa g 247), .ref (fa g 248), .int (z_20 3), .int (z_20 4), .int (z_20 5), .int (z_20 6), .int (z_20 7), .int (z_20 8), .int (z_20 9)]) := by rw [p_41]; exact (fu_ne (by omega)).trans m_24o
        have h_27 : ct_25 240 = .inl (fcI g, 121, .inl (mvF (F_21 2) (F_21 0) 121 0 121)) := by rw [p_41]; exact fu_eq _ _ _
        have h_28 : ct_25 241 = .inl (fcI g, 726, .inl (F_21 1)) := by rw [p_41]; exact (fu_ne (by omega)).trans m_24r1
        have h_29 : ct_25 242 = .inl (fcI g, 242, .inl (F_21 2)) := by rw [p_41]; exact (fu_ne (by omega)).trans m_24r2
        have h_30 : ct_25 243 = .inl (fcI g, 2, .inl (F_21 3)) := by rw [p_41]; exact (fu_ne (by omega)).trans m_24r3
        have h_31 : ct_25 244 = .inl (fcI g, 60, .inl (F_21 4)) := by rw [p_41]; exact (fu_ne (by omega)).trans m_24r4
        have h_32 : ct_25 245 = .inl (fcI g, 6, .inl (F_21 5)) := by rw [p_41]; exact (fu_ne (by omega)).trans m_24r5
        have h_33 : ct_25 246 = .inl (fcI g, 36, .inl (F_21 6)) := by rw [p_41]; exact (fu_ne (by omega)).trans m_24r6
        have h_34 : ct_25 247 = .inl (fcI g, 20, .inl (F_21 7)) := by rw [p_41]; exact (fu_ne (by omega)).trans m_24r7
        have h_35 : ct_25 248 = .inl (fcI g, 20, .inl (F_21 8)) := by rw [p_41]; exact (fu_ne (by omega)).trans m_24r8
        have hr8 : ∀ j, j < 121 → mvF (F_21 2) (F_21 0) 121 0 121 j = s2 j := fun j hj => by
          have e1 := mvF_in (fa := F_21 2) (fb := F_21 0) (p := 121) (q := 0) hj
          rw [Nat.zero_add] at e1
          rw [e1, f52]; exact hS9.2.2.2 hu j hj
        have hgs : Good s2 := hg2 hu
        refine lv_aload_n hx hb dX8_restore_44 rfl (lv_at hl 0 rfl) ?_
        refine fs_get E hP (k := 239) (v := .ref (fa g 240)) 0 fc8 h_26 (by omega) (by decide) (wm wl_5 (i := 0) rfl) rfl dX8_restore_45 ?_
        refine lv_iconst (v := (nI 1)) hx hb dX8_restore_48 (by decide) ?_
        refine fs_iald E hP (k := 240) h_27 (by omega) (vp_in_nI (by omega) (by omega)) dX8_restore_49 ?_
        refine fs_vi (y := (mvF (F_21 2) (F_21 0) 121 0 121) 1) (congrArg (mvF (F_21 2) (F_21 0) 121 0 121) (nI_clamp (by omega))) ?_
        refine fs_vi (y := (nI (nT s2))) ((hr8 1 (by omega)).trans hgs.2.1.1) ?_
        have MA8 : MA g ct_25 (mkz (z_20 0) (z_20 1) (z_20 2) (z_20 3) (z_20 4) (z_20 5) (z_20 6) (z_20 7) (z_20 8) (z_20 9)) (mkF (mvF (F_21 2) (F_21 0) 121 0 121) (F_21 1) (F_21 2) (F_21 3) (F_21 4) (F_21 5) (F_21 6) (F_21 7) (F_21 8)) := ⟨h_26, h_27, h_28, h_29, h_30, h_31, h_32, h_33, h_34, h_35⟩
        refine fs_iret E hr hlk hP hS dX8_restore_50 ?_
        refine ⟨?_, ?_, (show fSame 239 249 _ _ from (fSame.ap (fSame.tr2 fSame.rf S_22 (by omega) (by omega)) p_41 (by omega) (by omega)))⟩
        · rw [if_neg nI10, if_pos rfl, if_pos hu]
        · refine RFc_t (Or.inr ⟨rfl, hu⟩) ?_
          rw [if_neg nI10]
          exact RFAt.ch hS9 hQ MA8 hr8 hRH5 e5 f52 f53 f54
      · have hu : ¬ u2 = true := fun z => absurd c_18 (by rw [if_pos z]; decide)
        refine lv_bipush (v := (-5)) hx hb dX8_restore_21 (by decide) ?_
        refine fs_iret E hr hlk hP hS dX8_restore_23 ?_
        refine ⟨?_, RFc_f (fun z => z.elim (fun y => nI10 y.1) (fun y => hu y.2)) hR, fSame.rf⟩
        rw [if_neg nI10, if_pos rfl, if_neg hu]
  · have c_6 := (fb_0 p_3).mp c_6
    refine lv_bipush (v := (-2)) hx hb dX8_restore_9 (by decide) ?_
    refine fs_iret E hr hlk hP hS dX8_restore_11 ?_
    have hx01 : ¬ (x = nI 0 ∨ x = nI 1) := fun y => c_6 (w01.mpr (y.imp (fun y => y.trans (by decide)) id))
    refine ⟨?_, RFc_f (fun z => z.elim (fun y => hx01 (Or.inl y.1)) (fun y => hx01 (Or.inr y.1))) hR, fSame.rf⟩
    rw [if_neg (fun y => hx01 (Or.inl y)), if_neg (fun y => hx01 (Or.inr y))]
