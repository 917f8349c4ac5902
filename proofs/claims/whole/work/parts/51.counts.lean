theorem upd_cg {f g : Nat → Int32} {k i : Nat} {x : Int32} (h : f i = g i) : upd f k x i = upd g k x i := by
  unfold upd; split
  · rfl
  · exact h
set_option maxRecDepth 100000 in
set_option maxHeartbeats 4000000 in
theorem c_X8_record (l : Launch) (g : fG) (N : Nat) (ct : Nat → va_E) (z : Nat → Int32) (F : Nat → Nat → Int32) (σ : Nat → Int32) (hN : 249 ≤ N) (hG : Good σ) (hM : MA g ct z F) (hT : SR σ F) (k : Nat) (hs : Nat → Nat → Int32) (hH : RH k hs z F) : Met l yX8_record (wsU yX8_record cX8_record 2 none) rX8_record (fPre g N ct [.ref (fa g 239)]) (fQv g N (fun ct1 => ∃ (z1 : Nat → Int32) (F1 : Nat → Nat → Int32), MA g ct1 z1 F1 ∧ RH (min (k + 1) 6) (recH σ hs) z1 F1 ∧ z1 1 = z 1 ∧ F1 0 = F 0 ∧ F1 2 = F 2 ∧ F1 3 = F 3 ∧ F1 4 = F 4 ∧ fSame 239 249 ct ct1)) 0 0 (fB g) := by
  refine fs_start (own := RX8) (lv0 := [(0, .ref (fa g 239))]) (by decide) rfl (Nat.le_of_ble_eq_true rfl) rfl ?_
  intro p e s m args below meth c ls E hr hlk hnm hP hl hS
  have hx := E.1.1
  have hb := E.1.2.1
  have m_1o : ct 239 = .inr (8, [.ref (fa g 240), .ref (fa g 241), .int (z 0), .ref (fa g 242), .ref (fa g 243), .ref (fa g 244), .int (z 1), .ref (fa g 245), .int (z 2), .ref (fa g 246), .ref (fa g 247), .ref (fa g 248), .int (z 3), .int (z 4), .int (z 5), .int (z 6), .int (z 7), .int (z 8), .int (z 9)]) := (hM).1
  have m_1r0 : ct 240 = .inl (fcI g, 121, .inl (F 0)) := (hM).2.1
  have m_1r1 : ct 241 = .inl (fcI g, 726, .inl (F 1)) := (hM).2.2.1
  have m_1r2 : ct 242 = .inl (fcI g, 242, .inl (F 2)) := (hM).2.2.2.1
  have m_1r3 : ct 243 = .inl (fcI g, 2, .inl (F 3)) := (hM).2.2.2.2.1
  have m_1r4 : ct 244 = .inl (fcI g, 60, .inl (F 4)) := (hM).2.2.2.2.2.1
  have m_1r5 : ct 245 = .inl (fcI g, 6, .inl (F 5)) := (hM).2.2.2.2.2.2.1
  have m_1r6 : ct 246 = .inl (fcI g, 36, .inl (F 6)) := (hM).2.2.2.2.2.2.2.1
  have m_1r7 : ct 247 = .inl (fcI g, 20, .inl (F 7)) := (hM).2.2.2.2.2.2.2.2.1
  have m_1r8 : ct 248 = .inl (fcI g, 20, .inl (F 8)) := (hM).2.2.2.2.2.2.2.2.2
  have hn3 := hG.n3
  have hn6 := hG.n6
  have hk20 := hG.k
  have hk6 := hH.2.1
  refine lv_aload_n hx hb dX8_record_0 rfl (lv_at hl 0 rfl) ?_
  refine fs_get E hP (k := 239) (v := .int (z 0)) 2 fc8 m_1o (by omega) (by decide) (wm wl_7 (i := 22) rfl) rfl dX8_record_1 ?_
  refine fs_vi (y := nI k) (hH.1) ?_
  refine lv_bipush (v := (nI 6)) hx hb dX8_record_4 (by decide) ?_
  refine lv_icmp_ne (tgt := 49) hx hb dX8_record_6 (by decide) (fun c_6 => ?_) (fun c_6 => ?_)
  · rw [nI_eq (by omega) (by omega)] at c_6
    refine lv_aload_n hx hb dX8_record_49 rfl (lv_at hl 0 rfl) ?_
    refine fs_get E hP (k := 239) (v := .ref (fa g 240)) 0 fc8 m_1o (by omega) (by decide) (wm wl_5 (i := 0) rfl) rfl dX8_record_50 ?_
    refine lv_iconst (v := (nI 0)) hx hb dX8_record_53 (by decide) ?_
    refine lv_aload_n hx hb dX8_record_54 rfl (lv_at hl 0 rfl) ?_
    refine fs_get E hP (k := 239) (v := .ref (fa g 241)) 1 fc8 m_1o (by omega) (by decide) (wm wl_5 (i := 1) rfl) rfl dX8_record_55 ?_
    refine lv_aload_n hx hb dX8_record_58 rfl (lv_at hl 0 rfl) ?_
    refine fs_get E hP (k := 239) (v := .int (z 0)) 2 fc8 m_1o (by omega) (by decide) (wm wl_7 (i := 22) rfl) rfl dX8_record_59 ?_
    refine fs_vi (y := nI k) (hH.1) ?_
    refine lv_bipush (v := (nI 121)) hx hb dX8_record_62 (by decide) ?_
    refine lv_imul hx hb dX8_record_64 ?_
    refine fs_vi (y := (nI (121 * k))) ((pk_mul _ _).trans (congrArg nI (Nat.mul_comm _ _))) ?_
    refine fs_v (va_runS (As := [.ref (fa g 240), .int (nI 0), .ref (fa g 241), .int (nI (121 * k))]) (rest := []) E.1 (c_X8_moves l g N ct 240 241 121 726 0 (121 * k) (F 0) (F 1) (by omega) (by omega) (by omega) (by omega) (by omega) (by omega) (by omega) m_1r0 m_1r1) (lk_RX8_45 E.1.2.2.2.2 ⟨Nat.le_of_ble_eq_true rfl, Nat.le_of_ble_eq_true rfl⟩) (fpreS E hP hS) rfl rfl hl.1 rfl (lv_room (Nat.le_of_ble_eq_true rfl)) dX8_record_65 ⟨Nat.zero_le _, Nat.zero_le _⟩) hS (fun ct_2 H locs p_65 hP hS => ?_)
    have h_3 : ct_2 239 = .inr (8, [.ref (fa g 240), .ref (fa g 241), .int (z 0), .ref (fa g 242), .ref (fa g 243), .ref (fa g 244), .int (z 1), .ref (fa g 245), .int (z 2), .ref (fa g 246), .ref (fa g 247), .ref (fa g 248), .int (z 3), .int (z 4), .int (z 5), .int (z 6), .int (z 7), .int (z 8), .int (z 9)]) := by rw [p_65]; exact (fu_ne (by omega)).trans m_1o
    have h_4 : ct_2 240 = .inl (fcI g, 121, .inl (F 0)) := by rw [p_65]; exact (fu_ne (by omega)).trans m_1r0
    have h_5 : ct_2 241 = .inl (fcI g, 726, .inl (mvF (F 0) (F 1) 0 (121 * k) 121)) := by rw [p_65]; exact fu_eq _ _ _
    have h_6 : ct_2 242 = .inl (fcI g, 242, .inl (F 2)) := by rw [p_65]; exact (fu_ne (by omega)).trans m_1r2
    have h_7 : ct_2 243 = .inl (fcI g, 2, .inl (F 3)) := by rw [p_65]; exact (fu_ne (by omega)).trans m_1r3
    have h_8 : ct_2 244 = .inl (fcI g, 60, .inl (F 4)) := by rw [p_65]; exact (fu_ne (by omega)).trans m_1r4
    have h_9 : ct_2 245 = .inl (fcI g, 6, .inl (F 5)) := by rw [p_65]; exact (fu_ne (by omega)).trans m_1r5
    have h_10 : ct_2 246 = .inl (fcI g, 36, .inl (F 6)) := by rw [p_65]; exact (fu_ne (by omega)).trans m_1r6
    have h_11 : ct_2 247 = .inl (fcI g, 20, .inl (F 7)) := by rw [p_65]; exact (fu_ne (by omega)).trans m_1r7
    have h_12 : ct_2 248 = .inl (fcI g, 20, .inl (F 8)) := by rw [p_65]; exact (fu_ne (by omega)).trans m_1r8
    refine lv_aload_n hx hb dX8_record_68 rfl (lv_at hl 0 rfl) ?_
    refine lv_dup hx hb dX8_record_69 rfl ?_
    refine fs_get E hP (k := 239) (v := .int (z 0)) 2 fc8 h_3 (by omega) (by decide) (wm wl_7 (i := 22) rfl) rfl dX8_record_70 ?_
    refine fs_vi (y := nI k) (hH.1) ?_
    refine lv_iconst (v := (nI 1)) hx hb dX8_record_73 (by decide) ?_
    refine lv_iadd hx hb dX8_record_74 ?_
    refine fs_vi (y := (nI (k + 1))) (nI_1 _) ?_
    refine fs_put E hP hS (k := 239) 2 fc8 h_3 (by omega) (by decide) (wm wl_7 (i := 22) rfl) rfl rfl rfl rfl (Nat.le_of_ble_eq_true rfl) dX8_record_75 (fun ct_13 H locs q_14 hP hS => ?_)
    have h_15 : ct_13 239 = .inr (8, [.ref (fa g 240), .ref (fa g 241), .int (nI (k + 1)), .ref (fa g 242), .ref (fa g 243), .ref (fa g 244), .int (z 1), .ref (fa g 245), .int (z 2), .ref (fa g 246), .ref (fa g 247), .ref (fa g 248), .int (z 3), .int (z 4), .int (z 5), .int (z 6), .int (z 7), .int (z 8), .int (z 9)]) := by rw [q_14]; exact fu_eq _ _ _
    have h_16 : ct_13 240 = .inl (fcI g, 121, .inl (F 0)) := by rw [q_14]; exact (fu_ne (by omega)).trans h_4
    have h_17 : ct_13 241 = .inl (fcI g, 726, .inl (mvF (F 0) (F 1) 0 (121 * k) 121)) := by rw [q_14]; exact (fu_ne (by omega)).trans h_5
    have h_18 : ct_13 242 = .inl (fcI g, 242, .inl (F 2)) := by rw [q_14]; exact (fu_ne (by omega)).trans h_6
    have h_19 : ct_13 243 = .inl (fcI g, 2, .inl (F 3)) := by rw [q_14]; exact (fu_ne (by omega)).trans h_7
    have h_20 : ct_13 244 = .inl (fcI g, 60, .inl (F 4)) := by rw [q_14]; exact (fu_ne (by omega)).trans h_8
    have h_21 : ct_13 245 = .inl (fcI g, 6, .inl (F 5)) := by rw [q_14]; exact (fu_ne (by omega)).trans h_9
    have h_22 : ct_13 246 = .inl (fcI g, 36, .inl (F 6)) := by rw [q_14]; exact (fu_ne (by omega)).trans h_10
    have h_23 : ct_13 247 = .inl (fcI g, 20, .inl (F 7)) := by rw [q_14]; exact (fu_ne (by omega)).trans h_11
    have h_24 : ct_13 248 = .inl (fcI g, 20, .inl (F 8)) := by rw [q_14]; exact (fu_ne (by omega)).trans h_12
    have MA8 : MA g ct_13 (mkz (nI (k + 1)) (z 1) (z 2) (z 3) (z 4) (z 5) (z 6) (z 7) (z 8) (z 9)) (mkF (F 0) (mvF (F 0) (F 1) 0 (121 * k) 121) (F 2) (F 3) (F 4) (F 5) (F 6) (F 7) (F 8)) := ⟨h_15, h_16, h_17, h_18, h_19, h_20, h_21, h_22, h_23, h_24⟩
    refine fs_vret E hr hlk hP hS dX8_record_78 ?_
    exact ⟨(mkz (nI (k + 1)) (z 1) (z 2) (z 3) (z 4) (z 5) (z 6) (z 7) (z 8) (z 9)), (mkF (F 0) (mvF (F 0) (F 1) 0 (121 * k) 121) (F 2) (F 3) (F 4) (F 5) (F 6) (F 7) (F 8)), MA8, RH.lo hH hT (by omega) rfl rfl, rfl, rfl, rfl, rfl, rfl, (show fSame 239 249 _ _ from (fSame.ap (fSame.ap fSame.rf p_65 (by omega) (by omega)) q_14 (by omega) (by omega)))⟩
  · rw [nI_eq (by omega) (by omega)] at c_6
    refine lv_iconst (v := (nI 0)) hx hb dX8_record_9 (by decide) ?_
    refine lv_istore_n (lv' := [(1, .int (nI 0)), (0, .ref (fa g 239))]) hx hb dX8_record_10 rfl hl (by decide) rfl (fun ls hl => ?_)
    refine fs_ind (g := g) (N := N) (St := Nat) (fun (i : Nat) (ct_25 : Nat → va_E) (ls : Array Slot) => lv_has ls 2 [(0, .ref (fa g 239)), (1, .int (nI i))] ∧ ∃ fx : Nat → Int32, ct_25 = fu ct 241 (.inl (fcI g, 726, .inl fx)) ∧ i ≤ 605 ∧ ∀ j, j < 726 → fx j = if j < i then F 1 (j + 121) else F 1 j) (fun i => 605 - i) ?_ 0 _ _ ls _ ⟨lv_sub hl [1, 0] rfl, ⟨_, by rw [fu_same m_1r1], by omega, fun j hj => (if_neg (by omega)).symm⟩⟩ hP hS
    clear hl hP hS
    intro st ct_25 H ls locs hI hP hS ih
    obtain ⟨i, rfl⟩ : ∃ z, z = st := ⟨_, rfl⟩
    obtain ⟨hl, fx, hct, hI⟩ := hI
    have h_26 : ct_25 239 = .inr (8, [.ref (fa g 240), .ref (fa g 241), .int (z 0), .ref (fa g 242), .ref (fa g 243), .ref (fa g 244), .int (z 1), .ref (fa g 245), .int (z 2), .ref (fa g 246), .ref (fa g 247), .ref (fa g 248), .int (z 3), .int (z 4), .int (z 5), .int (z 6), .int (z 7), .int (z 8), .int (z 9)]) := by rw [hct]; exact (fu_ne (by omega)).trans m_1o
    have h_27 : ct_25 240 = .inl (fcI g, 121, .inl (F 0)) := by rw [hct]; exact (fu_ne (by omega)).trans m_1r0
    have h_28 : ct_25 241 = .inl (fcI g, 726, .inl fx) := by rw [hct]; exact fu_eq _ _ _
    have h_29 : ct_25 242 = .inl (fcI g, 242, .inl (F 2)) := by rw [hct]; exact (fu_ne (by omega)).trans m_1r2
    have h_30 : ct_25 243 = .inl (fcI g, 2, .inl (F 3)) := by rw [hct]; exact (fu_ne (by omega)).trans m_1r3
    have h_31 : ct_25 244 = .inl (fcI g, 60, .inl (F 4)) := by rw [hct]; exact (fu_ne (by omega)).trans m_1r4
    have h_32 : ct_25 245 = .inl (fcI g, 6, .inl (F 5)) := by rw [hct]; exact (fu_ne (by omega)).trans m_1r5
    have h_33 : ct_25 246 = .inl (fcI g, 36, .inl (F 6)) := by rw [hct]; exact (fu_ne (by omega)).trans m_1r6
    have h_34 : ct_25 247 = .inl (fcI g, 20, .inl (F 7)) := by rw [hct]; exact (fu_ne (by omega)).trans m_1r7
    have h_35 : ct_25 248 = .inl (fcI g, 20, .inl (F 8)) := by rw [hct]; exact (fu_ne (by omega)).trans m_1r8
    have hI1 := hI.1
    refine lv_iload_n hx hb dX8_record_11 rfl (lv_at hl 1 rfl) ?_
    refine lv_sipush (v := (nI 605)) hx hb dX8_record_12 (by decide) ?_
    refine lv_icmp_ge (tgt := 39) hx hb dX8_record_15 (by decide) (fun c_15 => ?_) (fun c_15 => ?_)
    · rw [nI_leI (by omega) (by omega)] at c_15
      have hi6 : i = 605 := by omega
      rw [hi6] at hI
      clear ih
      refine lv_aload_n hx hb dX8_record_39 rfl (lv_at hl 0 rfl) ?_
      refine lv_dup hx hb dX8_record_40 rfl ?_
      refine fs_get E hP (k := 239) (v := .int (z 0)) 2 fc8 h_26 (by omega) (by decide) (wm wl_7 (i := 22) rfl) rfl dX8_record_41 ?_
      refine fs_vi (y := nI k) (hH.1) ?_
      refine lv_iconst (v := (nI 1)) hx hb dX8_record_44 (by decide) ?_
      refine lv_isub hx hb dX8_record_45 ?_
      refine fs_vi (y := (nI (k - 1))) (pk_sub (by omega)) ?_
      refine fs_put E hP hS (k := 239) 2 fc8 h_26 (by omega) (by decide) (wm wl_7 (i := 22) rfl) rfl rfl rfl rfl (Nat.le_of_ble_eq_true rfl) dX8_record_46 (fun ct_36 H locs q_37 hP hS => ?_)
      have h_38 : ct_36 239 = .inr (8, [.ref (fa g 240), .ref (fa g 241), .int (nI (k - 1)), .ref (fa g 242), .ref (fa g 243), .ref (fa g 244), .int (z 1), .ref (fa g 245), .int (z 2), .ref (fa g 246), .ref (fa g 247), .ref (fa g 248), .int (z 3), .int (z 4), .int (z 5), .int (z 6), .int (z 7), .int (z 8), .int (z 9)]) := by rw [q_37]; exact fu_eq _ _ _
      have h_39 : ct_36 240 = .inl (fcI g, 121, .inl (F 0)) := by rw [q_37]; exact (fu_ne (by omega)).trans h_27
      have h_40 : ct_36 241 = .inl (fcI g, 726, .inl fx) := by rw [q_37]; exact (fu_ne (by omega)).trans h_28
      have h_41 : ct_36 242 = .inl (fcI g, 242, .inl (F 2)) := by rw [q_37]; exact (fu_ne (by omega)).trans h_29
      have h_42 : ct_36 243 = .inl (fcI g, 2, .inl (F 3)) := by rw [q_37]; exact (fu_ne (by omega)).trans h_30
      have h_43 : ct_36 244 = .inl (fcI g, 60, .inl (F 4)) := by rw [q_37]; exact (fu_ne (by omega)).trans h_31
      have h_44 : ct_36 245 = .inl (fcI g, 6, .inl (F 5)) := by rw [q_37]; exact (fu_ne (by omega)).trans h_32
      have h_45 : ct_36 246 = .inl (fcI g, 36, .inl (F 6)) := by rw [q_37]; exact (fu_ne (by omega)).trans h_33
      have h_46 : ct_36 247 = .inl (fcI g, 20, .inl (F 7)) := by rw [q_37]; exact (fu_ne (by omega)).trans h_34
      have h_47 : ct_36 248 = .inl (fcI g, 20, .inl (F 8)) := by rw [q_37]; exact (fu_ne (by omega)).trans h_35
      refine lv_aload_n hx hb dX8_record_49 rfl (lv_at hl 0 rfl) ?_
      refine fs_get E hP (k := 239) (v := .ref (fa g 240)) 0 fc8 h_38 (by omega) (by decide) (wm wl_5 (i := 0) rfl) rfl dX8_record_50 ?_
      refine lv_iconst (v := (nI 0)) hx hb dX8_record_53 (by decide) ?_
      refine lv_aload_n hx hb dX8_record_54 rfl (lv_at hl 0 rfl) ?_
      refine fs_get E hP (k := 239) (v := .ref (fa g 241)) 1 fc8 h_38 (by omega) (by decide) (wm wl_5 (i := 1) rfl) rfl dX8_record_55 ?_
      refine lv_aload_n hx hb dX8_record_58 rfl (lv_at hl 0 rfl) ?_
      refine fs_get E hP (k := 239) (v := .int (nI (k - 1))) 2 fc8 h_38 (by omega) (by decide) (wm wl_7 (i := 22) rfl) rfl dX8_record_59 ?_
      refine lv_bipush (v := (nI 121)) hx hb dX8_record_62 (by decide) ?_
      refine lv_imul hx hb dX8_record_64 ?_
      refine fs_vi (y := (nI 605)) ((pk_mul _ _).trans (congrArg nI (by omega))) ?_
      refine fs_v (va_runS (As := [.ref (fa g 240), .int (nI 0), .ref (fa g 241), .int (nI 605)]) (rest := []) E.1 (c_X8_moves l g N ct_36 240 241 121 726 0 605 (F 0) fx (by omega) (by omega) (by omega) (by omega) (by omega) (by omega) (by omega) h_39 h_40) (lk_RX8_45 E.1.2.2.2.2 ⟨Nat.le_of_ble_eq_true rfl, Nat.le_of_ble_eq_true rfl⟩) (fpreS E hP hS) rfl rfl hl.1 rfl (lv_room (Nat.le_of_ble_eq_true rfl)) dX8_record_65 ⟨Nat.zero_le _, Nat.zero_le _⟩) hS (fun ct_48 H locs p_65 hP hS => ?_)
      have h_49 : ct_48 239 = .inr (8, [.ref (fa g 240), .ref (fa g 241), .int (nI (k - 1)), .ref (fa g 242), .ref (fa g 243), .ref (fa g 244), .int (z 1), .ref (fa g 245), .int (z 2), .ref (fa g 246), .ref (fa g 247), .ref (fa g 248), .int (z 3), .int (z 4), .int (z 5), .int (z 6), .int (z 7), .int (z 8), .int (z 9)]) := by rw [p_65]; exact (fu_ne (by omega)).trans h_38
      have h_50 : ct_48 240 = .inl (fcI g, 121, .inl (F 0)) := by rw [p_65]; exact (fu_ne (by omega)).trans h_39
      have h_51 : ct_48 241 = .inl (fcI g, 726, .inl (mvF (F 0) fx 0 605 121)) := by rw [p_65]; exact fu_eq _ _ _
      have h_52 : ct_48 242 = .inl (fcI g, 242, .inl (F 2)) := by rw [p_65]; exact (fu_ne (by omega)).trans h_41
      have h_53 : ct_48 243 = .inl (fcI g, 2, .inl (F 3)) := by rw [p_65]; exact (fu_ne (by omega)).trans h_42
      have h_54 : ct_48 244 = .inl (fcI g, 60, .inl (F 4)) := by rw [p_65]; exact (fu_ne (by omega)).trans h_43
      have h_55 : ct_48 245 = .inl (fcI g, 6, .inl (F 5)) := by rw [p_65]; exact (fu_ne (by omega)).trans h_44
      have h_56 : ct_48 246 = .inl (fcI g, 36, .inl (F 6)) := by rw [p_65]; exact (fu_ne (by omega)).trans h_45
      have h_57 : ct_48 247 = .inl (fcI g, 20, .inl (F 7)) := by rw [p_65]; exact (fu_ne (by omega)).trans h_46
      have h_58 : ct_48 248 = .inl (fcI g, 20, .inl (F 8)) := by rw [p_65]; exact (fu_ne (by omega)).trans h_47
      refine lv_aload_n hx hb dX8_record_68 rfl (lv_at hl 0 rfl) ?_
      refine lv_dup hx hb dX8_record_69 rfl ?_
      refine fs_get E hP (k := 239) (v := .int (nI (k - 1))) 2 fc8 h_49 (by omega) (by decide) (wm wl_7 (i := 22) rfl) rfl dX8_record_70 ?_
      refine lv_iconst (v := (nI 1)) hx hb dX8_record_73 (by decide) ?_
      refine lv_iadd hx hb dX8_record_74 ?_
      refine fs_vi (y := (nI 6)) ((nI_1 _).trans (congrArg nI (by omega))) ?_
      refine fs_put E hP hS (k := 239) 2 fc8 h_49 (by omega) (by decide) (wm wl_7 (i := 22) rfl) rfl rfl rfl rfl (Nat.le_of_ble_eq_true rfl) dX8_record_75 (fun ct_59 H locs q_60 hP hS => ?_)
      have h_61 : ct_59 239 = .inr (8, [.ref (fa g 240), .ref (fa g 241), .int (nI 6), .ref (fa g 242), .ref (fa g 243), .ref (fa g 244), .int (z 1), .ref (fa g 245), .int (z 2), .ref (fa g 246), .ref (fa g 247), .ref (fa g 248), .int (z 3), .int (z 4), .int (z 5), .int (z 6), .int (z 7), .int (z 8), .int (z 9)]) := by rw [q_60]; exact fu_eq _ _ _
      have h_62 : ct_59 240 = .inl (fcI g, 121, .inl (F 0)) := by rw [q_60]; exact (fu_ne (by omega)).trans h_50
      have h_63 : ct_59 241 = .inl (fcI g, 726, .inl (mvF (F 0) fx 0 605 121)) := by rw [q_60]; exact (fu_ne (by omega)).trans h_51
      have h_64 : ct_59 242 = .inl (fcI g, 242, .inl (F 2)) := by rw [q_60]; exact (fu_ne (by omega)).trans h_52
      have h_65 : ct_59 243 = .inl (fcI g, 2, .inl (F 3)) := by rw [q_60]; exact (fu_ne (by omega)).trans h_53
      have h_66 : ct_59 244 = .inl (fcI g, 60, .inl (F 4)) := by rw [q_60]; exact (fu_ne (by omega)).trans h_54
      have h_67 : ct_59 245 = .inl (fcI g, 6, .inl (F 5)) := by rw [q_60]; exact (fu_ne (by omega)).trans h_55
      have h_68 : ct_59 246 = .inl (fcI g, 36, .inl (F 6)) := by rw [q_60]; exact (fu_ne (by omega)).trans h_56
      have h_69 : ct_59 247 = .inl (fcI g, 20, .inl (F 7)) := by rw [q_60]; exact (fu_ne (by omega)).trans h_57
      have h_70 : ct_59 248 = .inl (fcI g, 20, .inl (F 8)) := by rw [q_60]; exact (fu_ne (by omega)).trans h_58
      have MA8 : MA g ct_59 (mkz (nI 6) (z 1) (z 2) (z 3) (z 4) (z 5) (z 6) (z 7) (z 8) (z 9)) (mkF (F 0) (mvF (F 0) fx 0 605 121) (F 2) (F 3) (F 4) (F 5) (F 6) (F 7) (F 8)) := ⟨h_61, h_62, h_63, h_64, h_65, h_66, h_67, h_68, h_69, h_70⟩
      refine fs_vret E hr hlk hP hS dX8_record_78 ?_
      exact ⟨(mkz (nI 6) (z 1) (z 2) (z 3) (z 4) (z 5) (z 6) (z 7) (z 8) (z 9)), (mkF (F 0) (mvF (F 0) fx 0 605 121) (F 2) (F 3) (F 4) (F 5) (F 6) (F 7) (F 8)), MA8, RH.hi (f := fx) hH hT c_6 rfl (fun j hj => by rw [hI.2 j (by omega), if_pos (by omega)]) rfl, rfl, rfl, rfl, rfl, rfl, (show fSame 239 249 _ _ from (fSame.ap (fSame.ap (fSame.ap (fSame.ap fSame.rf hct (by omega) (by omega)) q_37 (by omega) (by omega)) p_65 (by omega) (by omega)) q_60 (by omega) (by omega)))⟩
    · rw [nI_leI (by omega) (by omega)] at c_15
      refine lv_aload_n hx hb dX8_record_18 rfl (lv_at hl 0 rfl) ?_
      refine fs_get E hP (k := 239) (v := .ref (fa g 241)) 1 fc8 h_26 (by omega) (by decide) (wm wl_5 (i := 1) rfl) rfl dX8_record_19 ?_
      refine lv_iload_n hx hb dX8_record_22 rfl (lv_at hl 1 rfl) ?_
      refine lv_aload_n hx hb dX8_record_23 rfl (lv_at hl 0 rfl) ?_
      refine fs_get E hP (k := 239) (v := .ref (fa g 241)) 1 fc8 h_26 (by omega) (by decide) (wm wl_5 (i := 1) rfl) rfl dX8_record_24 ?_
      refine lv_iload_n hx hb dX8_record_27 rfl (lv_at hl 1 rfl) ?_
      refine lv_bipush (v := (nI 121)) hx hb dX8_record_28 (by decide) ?_
      refine lv_iadd hx hb dX8_record_30 ?_
      refine fs_vi (y := nI (i + 121)) (nI_add _ _) ?_
      refine fs_iald E hP (k := 241) h_28 (by omega) (vp_in_nI (by omega) (by omega)) dX8_record_31 ?_
      refine fs_vi (y := fx (i + 121)) (congrArg fx (nI_clamp (by omega))) ?_
      refine fs_vi (y := (F 1 (i + 121))) ((hI.2 _ (by omega)).trans (if_neg (by omega))) ?_
      refine fs_iast E hP hS (k := 241) h_28 (by omega) (vp_in_nI (by omega) (by omega)) dX8_record_32 (fun ct_71 H locs q_72 hP hS => ?_)
      rw [nI_clamp (by omega)] at q_72
      have h_73 : ct_71 239 = .inr (8, [.ref (fa g 240), .ref (fa g 241), .int (z 0), .ref (fa g 242), .ref (fa g 243), .ref (fa g 244), .int (z 1), .ref (fa g 245), .int (z 2), .ref (fa g 246), .ref (fa g 247), .ref (fa g 248), .int (z 3), .int (z 4), .int (z 5), .int (z 6), .int (z 7), .int (z 8), .int (z 9)]) := by rw [q_72]; exact (fu_ne (by omega)).trans h_26
      have h_74 : ct_71 240 = .inl (fcI g, 121, .inl (F 0)) := by rw [q_72]; exact (fu_ne (by omega)).trans h_27
      have h_75 : ct_71 241 = .inl (fcI g, 726, .inl (upd fx i (F 1 (i + 121)))) := by rw [q_72]; exact fu_eq _ _ _
      have h_76 : ct_71 242 = .inl (fcI g, 242, .inl (F 2)) := by rw [q_72]; exact (fu_ne (by omega)).trans h_29
      have h_77 : ct_71 243 = .inl (fcI g, 2, .inl (F 3)) := by rw [q_72]; exact (fu_ne (by omega)).trans h_30
      have h_78 : ct_71 244 = .inl (fcI g, 60, .inl (F 4)) := by rw [q_72]; exact (fu_ne (by omega)).trans h_31
      have h_79 : ct_71 245 = .inl (fcI g, 6, .inl (F 5)) := by rw [q_72]; exact (fu_ne (by omega)).trans h_32
      have h_80 : ct_71 246 = .inl (fcI g, 36, .inl (F 6)) := by rw [q_72]; exact (fu_ne (by omega)).trans h_33
      have h_81 : ct_71 247 = .inl (fcI g, 20, .inl (F 7)) := by rw [q_72]; exact (fu_ne (by omega)).trans h_34
      have h_82 : ct_71 248 = .inl (fcI g, 20, .inl (F 8)) := by rw [q_72]; exact (fu_ne (by omega)).trans h_35
      have hs9 : ∀ j, j < 726 → upd fx i (F 1 (i + 121)) j = if j < i + 1 then F 1 (j + 121) else F 1 j := fun j hj => by
        by_cases y : j = i
        · subst y; rw [upd_eq, if_pos (by omega)]
        · rw [upd_ne y, hI.2 j hj]
          by_cases x : j < i
          · rw [if_pos x, if_pos (by omega)]
          · rw [if_neg x, if_neg (by omega)]
      refine lv_iinc (v := (nI (i + 1))) (lv' := [(1, .int (nI (i + 1))), (0, .ref (fa g 239))]) hx hb dX8_record_33 hl (k := 1) rfl (nI_1 _) (by decide) rfl (fun ls hl => ?_)
      refine lv_goto (tgt := 11) hx hb dX8_record_36 (by decide) ?_
      exact ih (i + 1) _ _ ls _ (by omega) ⟨lv_sub hl [1, 0] rfl, ⟨_, by rw [q_72, hct, fu_fu], by omega, hs9⟩⟩ hP hS

set_option maxRecDepth 100000 in
set_option maxHeartbeats 4000000 in
theorem c_X8_tells (l : Launch) (g : fG) (N : Nat) (ct : Nat → va_E) (z : Nat → Int32) (F : Nat → Nat → Int32) (σ : Nat → Int32) (hN : 249 ≤ N) (hG : Good σ) (hM : MA g ct z F) (hT : SR σ F) (te kd a0 b0 : Nat) (hk : nT σ < 20) : Met l yX8_tells (wsU yX8_tells cX8_tells 6 (some .int)) rX8_tells (fPre g N ct [.ref (fa g 239), .int (nI te), .int (nI kd), .int (nI a0), .int (nI b0)]) (fQi g N (fun r ct1 => r = nI (nT σ) ∧ ∃ f : Nat → Int32, ct1 = fu ct 240 (.inl (fcI g, 121, .inl f)) ∧ ∀ i, i < 121 → f i = sTell σ te kd a0 b0 i)) 0 0 (fB g) := by
  refine fs_start (own := RX8) (lv0 := [(0, .ref (fa g 239)), (1, .int (nI te)), (2, .int (nI kd)), (3, .int (nI a0)), (4, .int (nI b0))]) (by decide) rfl (Nat.le_of_ble_eq_true rfl) rfl ?_
  intro p e s m args below meth c ls E hr hlk hnm hP hl hS
  have hx := E.1.1
  have hb := E.1.2.1
  have m_1o : ct 239 = .inr (8, [.ref (fa g 240), .ref (fa g 241), .int (z 0), .ref (fa g 242), .ref (fa g 243), .ref (fa g 244), .int (z 1), .ref (fa g 245), .int (z 2), .ref (fa g 246), .ref (fa g 247), .ref (fa g 248), .int (z 3), .int (z 4), .int (z 5), .int (z 6), .int (z 7), .int (z 8), .int (z 9)]) := (hM).1
  have m_1r0 : ct 240 = .inl (fcI g, 121, .inl (F 0)) := (hM).2.1
  have m_1r1 : ct 241 = .inl (fcI g, 726, .inl (F 1)) := (hM).2.2.1
  have m_1r2 : ct 242 = .inl (fcI g, 242, .inl (F 2)) := (hM).2.2.2.1
  have m_1r3 : ct 243 = .inl (fcI g, 2, .inl (F 3)) := (hM).2.2.2.2.1
  have m_1r4 : ct 244 = .inl (fcI g, 60, .inl (F 4)) := (hM).2.2.2.2.2.1
  have m_1r5 : ct 245 = .inl (fcI g, 6, .inl (F 5)) := (hM).2.2.2.2.2.2.1
  have m_1r6 : ct 246 = .inl (fcI g, 36, .inl (F 6)) := (hM).2.2.2.2.2.2.2.1
  have m_1r7 : ct 247 = .inl (fcI g, 20, .inl (F 7)) := (hM).2.2.2.2.2.2.2.2.1
  have m_1r8 : ct 248 = .inl (fcI g, 20, .inl (F 8)) := (hM).2.2.2.2.2.2.2.2.2
  have hn3 := hG.n3
  have hn6 := hG.n6
  have hk20 := hG.k
  refine lv_bipush (v := (nI 21)) hx hb dX8_tells_0 (by decide) ?_
  refine lv_iconst (v := (nI 5)) hx hb dX8_tells_2 (by decide) ?_
  refine lv_aload_n hx hb dX8_tells_3 rfl (lv_at hl 0 rfl) ?_
  refine fs_get E hP (k := 239) (v := .ref (fa g 240)) 0 fc8 m_1o (by omega) (by decide) (wm wl_5 (i := 0) rfl) rfl dX8_tells_4 ?_
  refine lv_iconst (v := (nI 1)) hx hb dX8_tells_7 (by decide) ?_
  refine fs_iald E hP (k := 240) m_1r0 (by omega) (vp_in_nI (by omega) (by omega)) dX8_tells_8 ?_
  refine fs_vi (y := (F 0) 1) (congrArg (F 0) (nI_clamp (by omega))) ?_
  refine fs_vi (y := (nI (nT σ))) (hT.k hG) ?_
  refine lv_imul hx hb dX8_tells_9 ?_
  refine fs_vi (y := nI (5 * (nT σ))) (pk_mul _ _) ?_
  refine lv_iadd hx hb dX8_tells_10 ?_
  refine fs_vi (y := nI (21 + 5 * (nT σ))) (nI_add _ _) ?_
  refine lv_istore (lv' := [(5, .int (nI (21 + 5 * (nT σ)))), (0, .ref (fa g 239)), (1, .int (nI te)), (2, .int (nI kd)), (3, .int (nI a0)), (4, .int (nI b0))]) hx hb dX8_tells_11 hl (by decide) rfl (fun ls hl => ?_)
  refine lv_aload_n hx hb dX8_tells_13 rfl (lv_at hl 1 rfl) ?_
  refine fs_get E hP (k := 239) (v := .ref (fa g 240)) 0 fc8 m_1o (by omega) (by decide) (wm wl_5 (i := 0) rfl) rfl dX8_tells_14 ?_
  refine lv_iload hx hb dX8_tells_17 (lv_at hl 0 rfl) ?_
  refine lv_iconst (v := (nI 0)) hx hb dX8_tells_19 (by decide) ?_
  refine lv_iadd hx hb dX8_tells_20 ?_
  refine fs_vi (y := nI (21 + 5 * (nT σ) + 0)) (nI_add _ _) ?_
  refine lv_iload_n hx hb dX8_tells_21 rfl (lv_at hl 2 rfl) ?_
  refine fs_iast E hP hS (k := 240) m_1r0 (by omega) (vp_in_nI (by omega) (by omega)) dX8_tells_22 (fun ct_2 H locs q_3 hP hS => ?_)
  rw [nI_clamp (by omega)] at q_3
  have h_4 : ct_2 239 = .inr (8, [.ref (fa g 240), .ref (fa g 241), .int (z 0), .ref (fa g 242), .ref (fa g 243), .ref (fa g 244), .int (z 1), .ref (fa g 245), .int (z 2), .ref (fa g 246), .ref (fa g 247), .ref (fa g 248), .int (z 3), .int (z 4), .int (z 5), .int (z 6), .int (z 7), .int (z 8), .int (z 9)]) := by rw [q_3]; exact (fu_ne (by omega)).trans m_1o
  have h_5 : ct_2 240 = .inl (fcI g, 121, .inl (upd (F 0) (21 + 5 * (nT σ) + 0) (nI te))) := by rw [q_3]; exact fu_eq _ _ _
  have h_6 : ct_2 241 = .inl (fcI g, 726, .inl (F 1)) := by rw [q_3]; exact (fu_ne (by omega)).trans m_1r1
  have h_7 : ct_2 242 = .inl (fcI g, 242, .inl (F 2)) := by rw [q_3]; exact (fu_ne (by omega)).trans m_1r2
  have h_8 : ct_2 243 = .inl (fcI g, 2, .inl (F 3)) := by rw [q_3]; exact (fu_ne (by omega)).trans m_1r3
  have h_9 : ct_2 244 = .inl (fcI g, 60, .inl (F 4)) := by rw [q_3]; exact (fu_ne (by omega)).trans m_1r4
  have h_10 : ct_2 245 = .inl (fcI g, 6, .inl (F 5)) := by rw [q_3]; exact (fu_ne (by omega)).trans m_1r5
  have h_11 : ct_2 246 = .inl (fcI g, 36, .inl (F 6)) := by rw [q_3]; exact (fu_ne (by omega)).trans m_1r6
  have h_12 : ct_2 247 = .inl (fcI g, 20, .inl (F 7)) := by rw [q_3]; exact (fu_ne (by omega)).trans m_1r7
  have h_13 : ct_2 248 = .inl (fcI g, 20, .inl (F 8)) := by rw [q_3]; exact (fu_ne (by omega)).trans m_1r8
  refine lv_aload_n hx hb dX8_tells_23 rfl (lv_at hl 1 rfl) ?_
  refine fs_get E hP (k := 239) (v := .ref (fa g 240)) 0 fc8 h_4 (by omega) (by decide) (wm wl_5 (i := 0) rfl) rfl dX8_tells_24 ?_
  refine lv_iload hx hb dX8_tells_27 (lv_at hl 0 rfl) ?_
  refine lv_iconst (v := (nI 1)) hx hb dX8_tells_29 (by decide) ?_
  refine lv_iadd hx hb dX8_tells_30 ?_
  refine fs_vi (y := nI (21 + 5 * (nT σ) + 1)) (nI_add _ _) ?_
  refine lv_iload_n hx hb dX8_tells_31 rfl (lv_at hl 3 rfl) ?_
  refine fs_iast E hP hS (k := 240) h_5 (by omega) (vp_in_nI (by omega) (by omega)) dX8_tells_32 (fun ct_14 H locs q_15 hP hS => ?_)
  rw [nI_clamp (by omega)] at q_15
  have h_16 : ct_14 239 = .inr (8, [.ref (fa g 240), .ref (fa g 241), .int (z 0), .ref (fa g 242), .ref (fa g 243), .ref (fa g 244), .int (z 1), .ref (fa g 245), .int (z 2), .ref (fa g 246), .ref (fa g 247), .ref (fa g 248), .int (z 3), .int (z 4), .int (z 5), .int (z 6), .int (z 7), .int (z 8), .int (z 9)]) := by rw [q_15]; exact (fu_ne (by omega)).trans h_4
  have h_17 : ct_14 240 = .inl (fcI g, 121, .inl (upd (upd (F 0) (21 + 5 * (nT σ) + 0) (nI te)) (21 + 5 * (nT σ) + 1) (nI kd))) := by rw [q_15]; exact fu_eq _ _ _
  have h_18 : ct_14 241 = .inl (fcI g, 726, .inl (F 1)) := by rw [q_15]; exact (fu_ne (by omega)).trans h_6
  have h_19 : ct_14 242 = .inl (fcI g, 242, .inl (F 2)) := by rw [q_15]; exact (fu_ne (by omega)).trans h_7
  have h_20 : ct_14 243 = .inl (fcI g, 2, .inl (F 3)) := by rw [q_15]; exact (fu_ne (by omega)).trans h_8
  have h_21 : ct_14 244 = .inl (fcI g, 60, .inl (F 4)) := by rw [q_15]; exact (fu_ne (by omega)).trans h_9
  have h_22 : ct_14 245 = .inl (fcI g, 6, .inl (F 5)) := by rw [q_15]; exact (fu_ne (by omega)).trans h_10
  have h_23 : ct_14 246 = .inl (fcI g, 36, .inl (F 6)) := by rw [q_15]; exact (fu_ne (by omega)).trans h_11
  have h_24 : ct_14 247 = .inl (fcI g, 20, .inl (F 7)) := by rw [q_15]; exact (fu_ne (by omega)).trans h_12
  have h_25 : ct_14 248 = .inl (fcI g, 20, .inl (F 8)) := by rw [q_15]; exact (fu_ne (by omega)).trans h_13
  refine lv_aload_n hx hb dX8_tells_33 rfl (lv_at hl 1 rfl) ?_
  refine fs_get E hP (k := 239) (v := .ref (fa g 240)) 0 fc8 h_16 (by omega) (by decide) (wm wl_5 (i := 0) rfl) rfl dX8_tells_34 ?_
  refine lv_iload hx hb dX8_tells_37 (lv_at hl 0 rfl) ?_
  refine lv_iconst (v := (nI 2)) hx hb dX8_tells_39 (by decide) ?_
  refine lv_iadd hx hb dX8_tells_40 ?_
  refine fs_vi (y := nI (21 + 5 * (nT σ) + 2)) (nI_add _ _) ?_
  refine lv_iload_n hx hb dX8_tells_41 rfl (lv_at hl 4 rfl) ?_
  refine fs_iast E hP hS (k := 240) h_17 (by omega) (vp_in_nI (by omega) (by omega)) dX8_tells_42 (fun ct_26 H locs q_27 hP hS => ?_)
  rw [nI_clamp (by omega)] at q_27
  have h_28 : ct_26 239 = .inr (8, [.ref (fa g 240), .ref (fa g 241), .int (z 0), .ref (fa g 242), .ref (fa g 243), .ref (fa g 244), .int (z 1), .ref (fa g 245), .int (z 2), .ref (fa g 246), .ref (fa g 247), .ref (fa g 248), .int (z 3), .int (z 4), .int (z 5), .int (z 6), .int (z 7), .int (z 8), .int (z 9)]) := by rw [q_27]; exact (fu_ne (by omega)).trans h_16
  have h_29 : ct_26 240 = .inl (fcI g, 121, .inl (upd (upd (upd (F 0) (21 + 5 * (nT σ) + 0) (nI te)) (21 + 5 * (nT σ) + 1) (nI kd)) (21 + 5 * (nT σ) + 2) (nI a0))) := by rw [q_27]; exact fu_eq _ _ _
  have h_30 : ct_26 241 = .inl (fcI g, 726, .inl (F 1)) := by rw [q_27]; exact (fu_ne (by omega)).trans h_18
  have h_31 : ct_26 242 = .inl (fcI g, 242, .inl (F 2)) := by rw [q_27]; exact (fu_ne (by omega)).trans h_19
  have h_32 : ct_26 243 = .inl (fcI g, 2, .inl (F 3)) := by rw [q_27]; exact (fu_ne (by omega)).trans h_20
  have h_33 : ct_26 244 = .inl (fcI g, 60, .inl (F 4)) := by rw [q_27]; exact (fu_ne (by omega)).trans h_21
  have h_34 : ct_26 245 = .inl (fcI g, 6, .inl (F 5)) := by rw [q_27]; exact (fu_ne (by omega)).trans h_22
  have h_35 : ct_26 246 = .inl (fcI g, 36, .inl (F 6)) := by rw [q_27]; exact (fu_ne (by omega)).trans h_23
  have h_36 : ct_26 247 = .inl (fcI g, 20, .inl (F 7)) := by rw [q_27]; exact (fu_ne (by omega)).trans h_24
  have h_37 : ct_26 248 = .inl (fcI g, 20, .inl (F 8)) := by rw [q_27]; exact (fu_ne (by omega)).trans h_25
  refine lv_aload_n hx hb dX8_tells_43 rfl (lv_at hl 1 rfl) ?_
  refine fs_get E hP (k := 239) (v := .ref (fa g 240)) 0 fc8 h_28 (by omega) (by decide) (wm wl_5 (i := 0) rfl) rfl dX8_tells_44 ?_
  refine lv_iload hx hb dX8_tells_47 (lv_at hl 0 rfl) ?_
  refine lv_iconst (v := (nI 3)) hx hb dX8_tells_49 (by decide) ?_
  refine lv_iadd hx hb dX8_tells_50 ?_
  refine fs_vi (y := nI (21 + 5 * (nT σ) + 3)) (nI_add _ _) ?_
  refine lv_iload hx hb dX8_tells_51 (lv_at hl 5 rfl) ?_
  refine fs_iast E hP hS (k := 240) h_29 (by omega) (vp_in_nI (by omega) (by omega)) dX8_tells_53 (fun ct_38 H locs q_39 hP hS => ?_)
  rw [nI_clamp (by omega)] at q_39
  have h_40 : ct_38 239 = .inr (8, [.ref (fa g 240), .ref (fa g 241), .int (z 0), .ref (fa g 242), .ref (fa g 243), .ref (fa g 244), .int (z 1), .ref (fa g 245), .int (z 2), .ref (fa g 246), .ref (fa g 247), .ref (fa g 248), .int (z 3), .int (z 4), .int (z 5), .int (z 6), .int (z 7), .int (z 8), .int (z 9)]) := by rw [q_39]; exact (fu_ne (by omega)).trans h_28
  have h_41 : ct_38 240 = .inl (fcI g, 121, .inl (upd (upd (upd (upd (F 0) (21 + 5 * (nT σ) + 0) (nI te)) (21 + 5 * (nT σ) + 1) (nI kd)) (21 + 5 * (nT σ) + 2) (nI a0)) (21 + 5 * (nT σ) + 3) (nI b0))) := by rw [q_39]; exact fu_eq _ _ _
  have h_42 : ct_38 241 = .inl (fcI g, 726, .inl (F 1)) := by rw [q_39]; exact (fu_ne (by omega)).trans h_30
  have h_43 : ct_38 242 = .inl (fcI g, 242, .inl (F 2)) := by rw [q_39]; exact (fu_ne (by omega)).trans h_31
  have h_44 : ct_38 243 = .inl (fcI g, 2, .inl (F 3)) := by rw [q_39]; exact (fu_ne (by omega)).trans h_32
  have h_45 : ct_38 244 = .inl (fcI g, 60, .inl (F 4)) := by rw [q_39]; exact (fu_ne (by omega)).trans h_33
  have h_46 : ct_38 245 = .inl (fcI g, 6, .inl (F 5)) := by rw [q_39]; exact (fu_ne (by omega)).trans h_34
  have h_47 : ct_38 246 = .inl (fcI g, 36, .inl (F 6)) := by rw [q_39]; exact (fu_ne (by omega)).trans h_35
  have h_48 : ct_38 247 = .inl (fcI g, 20, .inl (F 7)) := by rw [q_39]; exact (fu_ne (by omega)).trans h_36
  have h_49 : ct_38 248 = .inl (fcI g, 20, .inl (F 8)) := by rw [q_39]; exact (fu_ne (by omega)).trans h_37
  refine lv_aload_n hx hb dX8_tells_54 rfl (lv_at hl 1 rfl) ?_
  refine fs_get E hP (k := 239) (v := .ref (fa g 240)) 0 fc8 h_40 (by omega) (by decide) (wm wl_5 (i := 0) rfl) rfl dX8_tells_55 ?_
  refine lv_iload hx hb dX8_tells_58 (lv_at hl 0 rfl) ?_
  refine lv_iconst (v := (nI 4)) hx hb dX8_tells_60 (by decide) ?_
  refine lv_iadd hx hb dX8_tells_61 ?_
  refine fs_vi (y := nI (21 + 5 * (nT σ) + 4)) (nI_add _ _) ?_
  refine lv_iconst (v := (nI 0)) hx hb dX8_tells_62 (by decide) ?_
  refine fs_iast E hP hS (k := 240) h_41 (by omega) (vp_in_nI (by omega) (by omega)) dX8_tells_63 (fun ct_50 H locs q_51 hP hS => ?_)
  rw [nI_clamp (by omega)] at q_51
  have h_52 : ct_50 239 = .inr (8, [.ref (fa g 240), .ref (fa g 241), .int (z 0), .ref (fa g 242), .ref (fa g 243), .ref (fa g 244), .int (z 1), .ref (fa g 245), .int (z 2), .ref (fa g 246), .ref (fa g 247), .ref (fa g 248), .int (z 3), .int (z 4), .int (z 5), .int (z 6), .int (z 7), .int (z 8), .int (z 9)]) := by rw [q_51]; exact (fu_ne (by omega)).trans h_40
  have h_53 : ct_50 240 = .inl (fcI g, 121, .inl (upd (upd (upd (upd (upd (F 0) (21 + 5 * (nT σ) + 0) (nI te)) (21 + 5 * (nT σ) + 1) (nI kd)) (21 + 5 * (nT σ) + 2) (nI a0)) (21 + 5 * (nT σ) + 3) (nI b0)) (21 + 5 * (nT σ) + 4) (nI 0))) := by rw [q_51]; exact fu_eq _ _ _
  have h_54 : ct_50 241 = .inl (fcI g, 726, .inl (F 1)) := by rw [q_51]; exact (fu_ne (by omega)).trans h_42
  have h_55 : ct_50 242 = .inl (fcI g, 242, .inl (F 2)) := by rw [q_51]; exact (fu_ne (by omega)).trans h_43
  have h_56 : ct_50 243 = .inl (fcI g, 2, .inl (F 3)) := by rw [q_51]; exact (fu_ne (by omega)).trans h_44
  have h_57 : ct_50 244 = .inl (fcI g, 60, .inl (F 4)) := by rw [q_51]; exact (fu_ne (by omega)).trans h_45
  have h_58 : ct_50 245 = .inl (fcI g, 6, .inl (F 5)) := by rw [q_51]; exact (fu_ne (by omega)).trans h_46
  have h_59 : ct_50 246 = .inl (fcI g, 36, .inl (F 6)) := by rw [q_51]; exact (fu_ne (by omega)).trans h_47
  have h_60 : ct_50 247 = .inl (fcI g, 20, .inl (F 7)) := by rw [q_51]; exact (fu_ne (by omega)).trans h_48
  have h_61 : ct_50 248 = .inl (fcI g, 20, .inl (F 8)) := by rw [q_51]; exact (fu_ne (by omega)).trans h_49
  refine lv_aload_n hx hb dX8_tells_64 rfl (lv_at hl 1 rfl) ?_
  refine fs_get E hP (k := 239) (v := .ref (fa g 240)) 0 fc8 h_52 (by omega) (by decide) (wm wl_5 (i := 0) rfl) rfl dX8_tells_65 ?_
  refine lv_iconst (v := (nI 1)) hx hb dX8_tells_68 (by decide) ?_
  refine lv_dup2_11 hx hb dX8_tells_69 rfl rfl ?_
  refine fs_iald E hP (k := 240) h_53 (by omega) (vp_in_nI (by omega) (by omega)) dX8_tells_70 ?_
  refine fs_vi (y := (upd (upd (upd (upd (upd (F 0) (21 + 5 * (nT σ) + 0) (nI te)) (21 + 5 * (nT σ) + 1) (nI kd)) (21 + 5 * (nT σ) + 2) (nI a0)) (21 + 5 * (nT σ) + 3) (nI b0)) (21 + 5 * (nT σ) + 4) (nI 0)) 1) (congrArg (upd (upd (upd (upd (upd (F 0) (21 + 5 * (nT σ) + 0) (nI te)) (21 + 5 * (nT σ) + 1) (nI kd)) (21 + 5 * (nT σ) + 2) (nI a0)) (21 + 5 * (nT σ) + 3) (nI b0)) (21 + 5 * (nT σ) + 4) (nI 0)) (nI_clamp (by omega))) ?_
  refine fs_vi (y := (nI (nT σ))) (by rw [upd_ne (by omega), upd_ne (by omega), upd_ne (by omega), upd_ne (by omega), upd_ne (by omega)]; exact hT.k hG) ?_
  refine lv_iconst (v := (nI 1)) hx hb dX8_tells_71 (by decide) ?_
  refine lv_iadd hx hb dX8_tells_72 ?_
  refine fs_vi (y := nI (nT σ + 1)) (nI_add _ _) ?_
  refine fs_iast E hP hS (k := 240) h_53 (by omega) (vp_in_nI (by omega) (by omega)) dX8_tells_73 (fun ct_62 H locs q_63 hP hS => ?_)
  rw [nI_clamp (by omega)] at q_63
  have h_64 : ct_62 239 = .inr (8, [.ref (fa g 240), .ref (fa g 241), .int (z 0), .ref (fa g 242), .ref (fa g 243), .ref (fa g 244), .int (z 1), .ref (fa g 245), .int (z 2), .ref (fa g 246), .ref (fa g 247), .ref (fa g 248), .int (z 3), .int (z 4), .int (z 5), .int (z 6), .int (z 7), .int (z 8), .int (z 9)]) := by rw [q_63]; exact (fu_ne (by omega)).trans h_52
  have h_65 : ct_62 240 = .inl (fcI g, 121, .inl (upd (upd (upd (upd (upd (upd (F 0) (21 + 5 * (nT σ) + 0) (nI te)) (21 + 5 * (nT σ) + 1) (nI kd)) (21 + 5 * (nT σ) + 2) (nI a0)) (21 + 5 * (nT σ) + 3) (nI b0)) (21 + 5 * (nT σ) + 4) (nI 0)) 1 (nI (nT σ + 1)))) := by rw [q_63]; exact fu_eq _ _ _
  have h_66 : ct_62 241 = .inl (fcI g, 726, .inl (F 1)) := by rw [q_63]; exact (fu_ne (by omega)).trans h_54
  have h_67 : ct_62 242 = .inl (fcI g, 242, .inl (F 2)) := by rw [q_63]; exact (fu_ne (by omega)).trans h_55
  have h_68 : ct_62 243 = .inl (fcI g, 2, .inl (F 3)) := by rw [q_63]; exact (fu_ne (by omega)).trans h_56
  have h_69 : ct_62 244 = .inl (fcI g, 60, .inl (F 4)) := by rw [q_63]; exact (fu_ne (by omega)).trans h_57
  have h_70 : ct_62 245 = .inl (fcI g, 6, .inl (F 5)) := by rw [q_63]; exact (fu_ne (by omega)).trans h_58
  have h_71 : ct_62 246 = .inl (fcI g, 36, .inl (F 6)) := by rw [q_63]; exact (fu_ne (by omega)).trans h_59
  have h_72 : ct_62 247 = .inl (fcI g, 20, .inl (F 7)) := by rw [q_63]; exact (fu_ne (by omega)).trans h_60
  have h_73 : ct_62 248 = .inl (fcI g, 20, .inl (F 8)) := by rw [q_63]; exact (fu_ne (by omega)).trans h_61
  refine lv_aload_n hx hb dX8_tells_74 rfl (lv_at hl 1 rfl) ?_
  refine fs_get E hP (k := 239) (v := .ref (fa g 240)) 0 fc8 h_64 (by omega) (by decide) (wm wl_5 (i := 0) rfl) rfl dX8_tells_75 ?_
  refine lv_iconst (v := (nI 1)) hx hb dX8_tells_78 (by decide) ?_
  refine fs_iald E hP (k := 240) h_65 (by omega) (vp_in_nI (by omega) (by omega)) dX8_tells_79 ?_
  refine fs_vi (y := (upd (upd (upd (upd (upd (upd (F 0) (21 + 5 * (nT σ) + 0) (nI te)) (21 + 5 * (nT σ) + 1) (nI kd)) (21 + 5 * (nT σ) + 2) (nI a0)) (21 + 5 * (nT σ) + 3) (nI b0)) (21 + 5 * (nT σ) + 4) (nI 0)) 1 (nI (nT σ + 1))) 1) (congrArg (upd (upd (upd (upd (upd (upd (F 0) (21 + 5 * (nT σ) + 0) (nI te)) (21 + 5 * (nT σ) + 1) (nI kd)) (21 + 5 * (nT σ) + 2) (nI a0)) (21 + 5 * (nT σ) + 3) (nI b0)) (21 + 5 * (nT σ) + 4) (nI 0)) 1 (nI (nT σ + 1))) (nI_clamp (by omega))) ?_
  refine fs_vi (y := (nI (nT σ + 1))) (upd_eq _ _ _) ?_
  refine lv_iconst (v := (nI 1)) hx hb dX8_tells_80 (by decide) ?_
  refine lv_isub hx hb dX8_tells_81 ?_
  refine fs_vi (y := (nI (nT σ))) (by rw [pk_sub (by omega)]; rfl) ?_
  refine fs_iret E hr hlk hP hS dX8_tells_82 ?_
  refine ⟨rfl, _, by rw [q_63, q_51, q_39, q_27, q_15, q_3, fu_fu, fu_fu, fu_fu, fu_fu, fu_fu], fun i hi => ?_⟩
  unfold sTell
  rw [show 22 + 5 * nT σ = 21 + 5 * nT σ + 1 by omega, show 23 + 5 * nT σ = 21 + 5 * nT σ + 2 by omega, show 24 + 5 * nT σ = 21 + 5 * nT σ + 3 by omega, show 25 + 5 * nT σ = 21 + 5 * nT σ + 4 by omega]
  exact upd_cg (upd_cg (upd_cg (upd_cg (upd_cg (upd_cg (hT i hi))))))

set_option maxRecDepth 100000 in
set_option maxHeartbeats 4000000 in
theorem c_X8_openMany (l : Launch) (g : fG) (N : Nat) (ct : Nat → va_E) (z : Nat → Int32) (F : Nat → Nat → Int32) (σ : Nat → Int32) (hN : 249 ≤ N) (hG : Good σ) (hM : MA g ct z F) (hT : SR σ F) : Met l yX8_openMany (wsU yX8_openMany cX8_openMany 3 (some .int)) rX8_openMany (fPre g N ct [.ref (fa g 239)]) (fQpi (fun r => r = nI (cN (fun i => decide (rk σ i 4 = 0)) (nT σ)))) 0 0 (fB g) := by
  refine fs_start (own := RX8) (lv0 := [(0, .ref (fa g 239))]) (by decide) rfl (Nat.le_of_ble_eq_true rfl) rfl ?_
  intro p e s m args below meth c ls E hr hlk hnm hP hl hS
  have hx := E.1.1
  have hb := E.1.2.1
  have m_1o : ct 239 = .inr (8, [.ref (fa g 240), .ref (fa g 241), .int (z 0), .ref (fa g 242), .ref (fa g 243), .ref (fa g 244), .int (z 1), .ref (fa g 245), .int (z 2), .ref (fa g 246), .ref (fa g 247), .ref (fa g 248), .int (z 3), .int (z 4), .int (z 5), .int (z 6), .int (z 7), .int (z 8), .int (z 9)]) := (hM).1
  have m_1r0 : ct 240 = .inl (fcI g, 121, .inl (F 0)) := (hM).2.1
  have m_1r1 : ct 241 = .inl (fcI g, 726, .inl (F 1)) := (hM).2.2.1
  have m_1r2 : ct 242 = .inl (fcI g, 242, .inl (F 2)) := (hM).2.2.2.1
  have m_1r3 : ct 243 = .inl (fcI g, 2, .inl (F 3)) := (hM).2.2.2.2.1
  have m_1r4 : ct 244 = .inl (fcI g, 60, .inl (F 4)) := (hM).2.2.2.2.2.1
  have m_1r5 : ct 245 = .inl (fcI g, 6, .inl (F 5)) := (hM).2.2.2.2.2.2.1
  have m_1r6 : ct 246 = .inl (fcI g, 36, .inl (F 6)) := (hM).2.2.2.2.2.2.2.1
  have m_1r7 : ct 247 = .inl (fcI g, 20, .inl (F 7)) := (hM).2.2.2.2.2.2.2.2.1
  have m_1r8 : ct 248 = .inl (fcI g, 20, .inl (F 8)) := (hM).2.2.2.2.2.2.2.2.2
  have hn3 := hG.n3
  have hn6 := hG.n6
  have hk20 := hG.k
  refine lv_iconst (v := (nI 0)) hx hb dX8_openMany_0 (by decide) ?_
  refine lv_istore_n (lv' := [(1, .int (nI 0)), (0, .ref (fa g 239))]) hx hb dX8_openMany_1 rfl hl (by decide) rfl (fun ls hl => ?_)
  refine lv_iconst (v := (nI 0)) hx hb dX8_openMany_2 (by decide) ?_
  refine lv_istore_n (lv' := [(2, .int (nI 0)), (1, .int (nI 0)), (0, .ref (fa g 239))]) hx hb dX8_openMany_3 rfl hl (by decide) rfl (fun ls hl => ?_)
  refine fs_indP (g := g) (St := Nat) (fun (i : Nat) (ls : Array Slot) => lv_has ls 3 [(0, .ref (fa g 239)), (1, .int (nI (cN (fun i => decide (rk σ i 4 = 0)) i))), (2, .int (nI i))] ∧ i ≤ nT σ) (fun (i : Nat) => nT σ - i) ?_ 0 ls _ ⟨lv_sub hl [2, 1, 0] rfl, Nat.zero_le _⟩ hS
  clear hl hS
  intro st ls locs hI hS ih
  obtain ⟨i, rfl⟩ : ∃ z, z = st := ⟨_, rfl⟩
  obtain ⟨hl, hI⟩ := hI
  have hI0 := hI
  refine lv_iload_n hx hb dX8_openMany_4 rfl (lv_at hl 2 rfl) ?_
  refine lv_aload_n hx hb dX8_openMany_5 rfl (lv_at hl 0 rfl) ?_
  refine fs_get E hP (k := 239) (v := .ref (fa g 240)) 0 fc8 m_1o (by omega) (by decide) (wm wl_5 (i := 0) rfl) rfl dX8_openMany_6 ?_
  refine lv_iconst (v := (nI 1)) hx hb dX8_openMany_9 (by decide) ?_
  refine fs_iald E hP (k := 240) m_1r0 (by omega) (vp_in_nI (by omega) (by omega)) dX8_openMany_10 ?_
  refine fs_vi (y := (F 0) 1) (congrArg (F 0) (nI_clamp (by omega))) ?_
  refine fs_vi (y := (nI (nT σ))) (hT.k hG) ?_
  refine lv_icmp_ge (tgt := 36) hx hb dX8_openMany_11 (by decide) (fun c_11 => ?_) (fun c_11 => ?_)
  · rw [nI_leI (by omega) (by omega)] at c_11
    refine lv_iload_n hx hb dX8_openMany_36 rfl (lv_at hl 1 rfl) ?_
    refine fs_piret E hr hlk hS dX8_openMany_37 ?_
    rw [show nT σ = i by omega]
  · rw [nI_leI (by omega) (by omega)] at c_11
    refine lv_iload_n hx hb dX8_openMany_14 rfl (lv_at hl 1 rfl) ?_
    refine lv_aload_n hx hb dX8_openMany_15 rfl (lv_at hl 0 rfl) ?_
    refine lv_iload_n hx hb dX8_openMany_16 rfl (lv_at hl 2 rfl) ?_
    refine fs_pi (va_runV (As := [.int (nI i)]) (rest := [.int (nI (cN (fun i => decide (rk σ i 4 = 0)) i))]) E.1 (c_X8_isOpen l g N ct z F σ (by omega) hG hM hT i (by omega)) (lk_RX8_74 E.1.2.2.2.2 ⟨Nat.le_of_ble_eq_true rfl, Nat.le_of_ble_eq_true rfl⟩) (fpreV E hP hS fc8 m_1o (by omega)) rfl rfl hl.1 rfl (lv_room (Nat.le_of_ble_eq_true rfl)) dX8_openMany_17 ⟨Nat.zero_le _, Nat.zero_le _⟩) hS (fun r_17 locs p_17 hS => ?_)
    refine lv_if_eq (tgt := 27) hx hb dX8_openMany_20 (by decide) (fun c_20 => ?_) (fun c_20 => ?_)
    · have c_20 := (fb_0 p_17).mp c_20
      refine lv_iconst (v := (nI 0)) hx hb dX8_openMany_27 (by decide) ?_
      refine lv_iadd hx hb dX8_openMany_28 ?_
      refine fs_vi (y := (nI (cN (fun i => decide (rk σ i 4 = 0)) (i + 1)))) (by rw [cN_f (decide_eq_false c_20)]; exact nI_add _ 0) ?_
      refine lv_istore_n (lv' := [(1, .int (nI (cN (fun i => decide (rk σ i 4 = 0)) (i + 1)))), (0, .ref (fa g 239)), (2, .int (nI i))]) hx hb dX8_openMany_29 rfl hl (by decide) rfl (fun ls hl => ?_)
      refine lv_iinc (v := (nI (i + 1))) (lv' := [(2, .int (nI (i + 1))), (1, .int (nI (cN (fun i => decide (rk σ i 4 = 0)) (i + 1)))), (0, .ref (fa g 239))]) hx hb dX8_openMany_30 hl (k := 2) rfl (nI_1 _) (by decide) rfl (fun ls hl => ?_)
      refine lv_goto (tgt := 4) hx hb dX8_openMany_33 (by decide) ?_
      exact ih (i + 1) ls _ (by (try dsimp only); omega) ⟨lv_sub hl [2, 1, 0] rfl, by omega⟩ hS
    · have c_20 := (fb_1 p_17).mp c_20
      refine lv_iconst (v := (nI 1)) hx hb dX8_openMany_23 (by decide) ?_
      refine lv_goto (tgt := 28) hx hb dX8_openMany_24 (by decide) ?_
      refine lv_iadd hx hb dX8_openMany_28 ?_
      refine fs_vi (y := (nI (cN (fun i => decide (rk σ i 4 = 0)) (i + 1)))) (by rw [cN_t (decide_eq_true c_20)]; exact nI_1 _) ?_
      refine lv_istore_n (lv' := [(1, .int (nI (cN (fun i => decide (rk σ i 4 = 0)) (i + 1)))), (0, .ref (fa g 239)), (2, .int (nI i))]) hx hb dX8_openMany_29 rfl hl (by decide) rfl (fun ls hl => ?_)
      refine lv_iinc (v := (nI (i + 1))) (lv' := [(2, .int (nI (i + 1))), (1, .int (nI (cN (fun i => decide (rk σ i 4 = 0)) (i + 1)))), (0, .ref (fa g 239))]) hx hb dX8_openMany_30 hl (k := 2) rfl (nI_1 _) (by decide) rfl (fun ls hl => ?_)
      refine lv_goto (tgt := 4) hx hb dX8_openMany_33 (by decide) ?_
      exact ih (i + 1) ls _ (by (try dsimp only); omega) ⟨lv_sub hl [2, 1, 0] rfl, by omega⟩ hS
