set_option maxRecDepth 100000 in
set_option maxHeartbeats 4000000 in
theorem c_X8_tellAll (l : Launch) (g : fG) (N : Nat) (ct : Nat → va_E) (σ : Nat → Int32) (k : Nat) (hs : Nat → Nat → Int32) (u1 : Bool) (s1 : Nat → Int32) (u2 : Bool) (s2 : Nat → Int32) (t : Nat → Nat) (len : Nat) (hN : 249 ≤ N) (hG : Good σ) (hR : RFAt g ct σ k hs u1 s1 u2 s2 t len) (h128 : ∀ i, i < len → t i < 128) : Met l yX8_tellAll (wsU yX8_tellAll cX8_tellAll 2 (some .int)) rX8_tellAll (fPre g N ct [.ref (fa g 239)]) (fQi g N (fun r ct1 => r = (if ¬ ffF t len = -6 then -3 else if ¬ (∀ j, j < (len + 1) / 6 → pdT t j < nB σ) then -1 else if ¬ (∀ j, j < (len + 1) / 6 → sux (nB σ) (nI (pdK t j)) (nI (pdA t j)) (nI (pdB t j))) then -2 else if ¬ nT σ + (len + 1) / 6 ≤ 20 then -4 else nI ((len + 1) / 6)) ∧ RFAt g ct1 (if ((ffF t len = -6 ∧ (∀ j, j < (len + 1) / 6 → pdT t j < nB σ)) ∧ (∀ j, j < (len + 1) / 6 → sux (nB σ) (nI (pdK t j)) (nI (pdA t j)) (nI (pdB t j)))) ∧ nT σ + (len + 1) / 6 ≤ 20 then tlR σ t ((len + 1) / 6) else σ) (if ((ffF t len = -6 ∧ (∀ j, j < (len + 1) / 6 → pdT t j < nB σ)) ∧ (∀ j, j < (len + 1) / 6 → sux (nB σ) (nI (pdK t j)) (nI (pdA t j)) (nI (pdB t j)))) ∧ nT σ + (len + 1) / 6 ≤ 20 then min (k + 1) 6 else k) (if ((ffF t len = -6 ∧ (∀ j, j < (len + 1) / 6 → pdT t j < nB σ)) ∧ (∀ j, j < (len + 1) / 6 → sux (nB σ) (nI (pdK t j)) (nI (pdA t j)) (nI (pdB t j)))) ∧ nT σ + (len + 1) / 6 ≤ 20 then recH σ hs else hs) u1 s1 u2 s2 t (if ((ffF t len = -6 ∧ (∀ j, j < (len + 1) / 6 → pdT t j < nB σ)) ∧ (∀ j, j < (len + 1) / 6 → sux (nB σ) (nI (pdK t j)) (nI (pdA t j)) (nI (pdB t j)))) ∧ nT σ + (len + 1) / 6 ≤ 20 then 0 else len) ∧ fSame 239 249 ct ct1)) 0 0 (fB g) := by
  refine fs_start (own := RX8) (lv0 := [(0, .ref (fa g 239))]) (by decide) rfl (Nat.le_of_ble_eq_true rfl) rfl ?_
  intro p e s m args below meth c ls E hr hlk hnm hP hl hS
  have hx := E.1.1
  have hb := E.1.2.1
  obtain ⟨z, F, hM, hT, hH, hS9, hQ⟩ := id hR
  have m_1o : ct 239 = .inr (8, [.ref (fa g 240), .ref (fa g 241), .int (z 0), .ref (fa g 242), .ref (fa g 243), .ref (fa g 244), .int (z 1), .ref (fa g 245), .int (z 2), .ref (fa g 246), .ref (fa g 247), .ref (fa g 248), .int (z 3), .int (z 4), .int (z 5), .int (z 6), .int (z 7), .int (z 8), .int (z 9)]) := (hM).1
  have m_1r0 : ct 240 = .inl (fcI g, 121, .inl (F 0)) := (hM).2.1
  have m_1r1 : ct 241 = .inl (fcI g, 726, .inl (F 1)) := (hM).2.2.1
  have m_1r2 : ct 242 = .inl (fcI g, 242, .inl (F 2)) := (hM).2.2.2.1
  have m_1r3 : ct 243 = .inl (fcI g, 2, .inl (F 3)) := (hM).2.2.2.2.1
  have m_1r4 : ct 244 = .inl (fcI g, 60, .inl (F 4)) := (hM).2.2.2.2.2.1
  have m_1r5 : ct 245 = .inl (fcI g, 6, .inl (F 5)) := (hM).2.2.2.2.2.2.1
  have m_1r6 : ct 246 = .inl (fcI g, 36, .inl (F 6)) := (hM).2.2.2.2.2.2.2.1
  have m_1r7 : ct 247 = .inl (fcI g, 20, .inl (F 7)) := (hM).2.2.2.2.2.2.2.2.1
  have m_1r8 : ct 248 = .inl (fcI g, 20, .inl (F 8)) := (hM).2.2.2.2.2.2.2.2.2
  have hn3 := hG.n3
  have hn6 := hG.n6
  have hk20 := hG.k
  have hl60 := hQ.2.1
  refine lv_aload_n hx hb dX8_tellAll_0 rfl (lv_at hl 0 rfl) ?_
  refine fs_i (va_runV (As := []) (rest := []) E.1 (c_X8_findFault l g N ct z F t len (by omega) hM hQ h128) (lk_RX8_140 E.1.2.2.2.2 ⟨Nat.le_of_ble_eq_true rfl, Nat.le_of_ble_eq_true rfl⟩) (fpreV E hP hS fc8 m_1o (by omega)) rfl rfl hl.1 rfl (lv_room (Nat.le_of_ble_eq_true rfl)) dX8_tellAll_1 ⟨Nat.zero_le _, Nat.zero_le _⟩) hS (fun r_1 ct_2 H locs p_1 hP hS => ?_)
  refine fs_vi (y := (ffF t len)) p_1.1 ?_
  obtain ⟨v5, v6, v7, v8, v9, M5, s5⟩ := p_1.2
  have m_3o : ct_2 239 = .inr (8, [.ref (fa g 240), .ref (fa g 241), .int (z 0), .ref (fa g 242), .ref (fa g 243), .ref (fa g 244), .int (z 1), .ref (fa g 245), .int (z 2), .ref (fa g 246), .ref (fa g 247), .ref (fa g 248), .int (z 3), .int (z 4), .int v5, .int v6, .int v7, .int v8, .int v9]) := (M5).1
  have m_3r0 : ct_2 240 = .inl (fcI g, 121, .inl (F 0)) := (M5).2.1
  have m_3r1 : ct_2 241 = .inl (fcI g, 726, .inl (F 1)) := (M5).2.2.1
  have m_3r2 : ct_2 242 = .inl (fcI g, 242, .inl (F 2)) := (M5).2.2.2.1
  have m_3r3 : ct_2 243 = .inl (fcI g, 2, .inl (F 3)) := (M5).2.2.2.2.1
  have m_3r4 : ct_2 244 = .inl (fcI g, 60, .inl (F 4)) := (M5).2.2.2.2.2.1
  have m_3r5 : ct_2 245 = .inl (fcI g, 6, .inl (F 5)) := (M5).2.2.2.2.2.2.1
  have m_3r6 : ct_2 246 = .inl (fcI g, 36, .inl (F 6)) := (M5).2.2.2.2.2.2.2.1
  have m_3r7 : ct_2 247 = .inl (fcI g, 20, .inl (F 7)) := (M5).2.2.2.2.2.2.2.2.1
  have m_3r8 : ct_2 248 = .inl (fcI g, 20, .inl (F 8)) := (M5).2.2.2.2.2.2.2.2.2
  refine lv_bipush (v := (-6)) hx hb dX8_tellAll_4 (by decide) ?_
  refine lv_icmp_eq (tgt := 12) hx hb dX8_tellAll_6 (by decide) (fun c_6 => ?_) (fun c_6 => ?_)
  · obtain ⟨hl5, hcs⟩ := ffF_ok hl60 c_6
    refine lv_aload_n hx hb dX8_tellAll_12 rfl (lv_at hl 0 rfl) ?_
    have MB_4 : MA g ct_2 (mkz (z 0) (z 1) (z 2) (z 3) (z 4) v5 v6 v7 v8 v9) F := ⟨m_3o, m_3r0, m_3r1, m_3r2, m_3r3, m_3r4, m_3r5, m_3r6, m_3r7, m_3r8⟩
    refine fs_i (va_runV (As := []) (rest := []) E.1 (c_X8_lookThrough l g N ct_2 (mkz (z 0) (z 1) (z 2) (z 3) (z 4) v5 v6 v7 v8 v9) F σ (by omega) hG MB_4 hT t len ⟨hQ.1, hQ.2⟩ h128 hl5 hcs) (lk_RX8_143 E.1.2.2.2.2 ⟨Nat.le_of_ble_eq_true rfl, Nat.le_of_ble_eq_true rfl⟩) (fpreV E hP hS fc8 m_3o (by omega)) rfl rfl hl.1 rfl (lv_room (Nat.le_of_ble_eq_true rfl)) dX8_tellAll_13 ⟨Nat.zero_le _, Nat.zero_le _⟩) hS (fun r_13 ct_5 H locs p_13 hP hS => ?_)
    refine fs_vi (y := (if ¬ (∀ j, j < (len + 1) / 6 → pdT t j < nB σ) then -1 else if ¬ (∀ j, j < (len + 1) / 6 → sux (nB σ) (nI (pdK t j)) (nI (pdA t j)) (nI (pdB t j))) then -2 else nI ((len + 1) / 6))) p_13.1 ?_
    obtain ⟨u5, u6, u7, u8, u9, M6, s6⟩ := p_13.2
    have m_6o : ct_5 239 = .inr (8, [.ref (fa g 240), .ref (fa g 241), .int (z 0), .ref (fa g 242), .ref (fa g 243), .ref (fa g 244), .int (z 1), .ref (fa g 245), .int (z 2), .ref (fa g 246), .ref (fa g 247), .ref (fa g 248), .int (z 3), .int (z 4), .int u5, .int u6, .int u7, .int u8, .int u9]) := (M6).1
    have m_6r0 : ct_5 240 = .inl (fcI g, 121, .inl (F 0)) := (M6).2.1
    have m_6r1 : ct_5 241 = .inl (fcI g, 726, .inl (F 1)) := (M6).2.2.1
    have m_6r2 : ct_5 242 = .inl (fcI g, 242, .inl (F 2)) := (M6).2.2.2.1
    have m_6r3 : ct_5 243 = .inl (fcI g, 2, .inl (F 3)) := (M6).2.2.2.2.1
    have m_6r4 : ct_5 244 = .inl (fcI g, 60, .inl (F 4)) := (M6).2.2.2.2.2.1
    have m_6r5 : ct_5 245 = .inl (fcI g, 6, .inl (F 5)) := (M6).2.2.2.2.2.2.1
    have m_6r6 : ct_5 246 = .inl (fcI g, 36, .inl (F 6)) := (M6).2.2.2.2.2.2.2.1
    have m_6r7 : ct_5 247 = .inl (fcI g, 20, .inl (F 7)) := (M6).2.2.2.2.2.2.2.2.1
    have m_6r8 : ct_5 248 = .inl (fcI g, 20, .inl (F 8)) := (M6).2.2.2.2.2.2.2.2.2
    rcases if3 (P := (∀ j, j < (len + 1) / 6 → pdT t j < nB σ)) (Q := (∀ j, j < (len + 1) / 6 → sux (nB σ) (nI (pdK t j)) (nI (pdA t j)) (nI (pdB t j)))) (x := -1) (y := -2) (w := nI ((len + 1) / 6)) with ⟨h1, e7⟩ | ⟨⟨h1, h2⟩, e7⟩ | ⟨⟨h1, h2⟩, e7⟩
    · refine fs_vi (y := (-1)) e7 ?_
      refine lv_istore_n (lv' := [(1, .int (-1)), (0, .ref (fa g 239))]) hx hb dX8_tellAll_16 rfl hl (by decide) rfl (fun ls hl => ?_)
      refine lv_iload_n hx hb dX8_tellAll_17 rfl (lv_at hl 0 rfl) ?_
      refine lv_if_ge (tgt := 23) hx hb dX8_tellAll_18 (by decide) (fun c_18 => ?_) (fun c_18 => ?_)
      · exact absurd c_18 (by decide)
      refine lv_iload_n hx hb dX8_tellAll_21 rfl (lv_at hl 0 rfl) ?_
      have MB_7 : MA g ct_5 (mkz (z 0) (z 1) (z 2) (z 3) (z 4) u5 u6 u7 u8 u9) F := ⟨m_6o, m_6r0, m_6r1, m_6r2, m_6r3, m_6r4, m_6r5, m_6r6, m_6r7, m_6r8⟩
      have hR9 : RFAt g ct_5 σ k hs u1 s1 u2 s2 t len := RFAt.kk hT hH hS9 hQ MB_7 ⟨⟨rfl, rfl⟩, rfl, rfl, rfl, rfl, rfl⟩
      refine fs_iret E hr hlk hP hS dX8_tellAll_22 ?_
      refine ⟨?_, ?_, (show fSame 239 249 _ _ from (fSame.tr2 (fSame.tr2 fSame.rf s5 (by omega) (by omega)) s6 (by omega) (by omega)))⟩
      · rw [if_neg (fun z => z c_6), if_pos h1]
      · rw [if_neg (fun z => h1 z.1.1.2), if_neg (fun z => h1 z.1.1.2), if_neg (fun z => h1 z.1.1.2), if_neg (fun z => h1 z.1.1.2)]; exact hR9
    · refine fs_vi (y := (-2)) e7 ?_
      refine lv_istore_n (lv' := [(1, .int (-2)), (0, .ref (fa g 239))]) hx hb dX8_tellAll_16 rfl hl (by decide) rfl (fun ls hl => ?_)
      refine lv_iload_n hx hb dX8_tellAll_17 rfl (lv_at hl 0 rfl) ?_
      refine lv_if_ge (tgt := 23) hx hb dX8_tellAll_18 (by decide) (fun c_18 => ?_) (fun c_18 => ?_)
      · exact absurd c_18 (by decide)
      refine lv_iload_n hx hb dX8_tellAll_21 rfl (lv_at hl 0 rfl) ?_
      have MB_8 : MA g ct_5 (mkz (z 0) (z 1) (z 2) (z 3) (z 4) u5 u6 u7 u8 u9) F := ⟨m_6o, m_6r0, m_6r1, m_6r2, m_6r3, m_6r4, m_6r5, m_6r6, m_6r7, m_6r8⟩
      have hR9 : RFAt g ct_5 σ k hs u1 s1 u2 s2 t len := RFAt.kk hT hH hS9 hQ MB_8 ⟨⟨rfl, rfl⟩, rfl, rfl, rfl, rfl, rfl⟩
      refine fs_iret E hr hlk hP hS dX8_tellAll_22 ?_
      refine ⟨?_, ?_, (show fSame 239 249 _ _ from (fSame.tr2 (fSame.tr2 fSame.rf s5 (by omega) (by omega)) s6 (by omega) (by omega)))⟩
      · rw [if_neg (fun z => z c_6), if_neg (fun z => z h1), if_pos h2]
      · rw [if_neg (fun z => h2 z.1.2), if_neg (fun z => h2 z.1.2), if_neg (fun z => h2 z.1.2), if_neg (fun z => h2 z.1.2)]; exact hR9
    · refine fs_vi (y := (nI ((len + 1) / 6))) e7 ?_
      refine lv_istore_n (lv' := [(1, .int (nI ((len + 1) / 6))), (0, .ref (fa g 239))]) hx hb dX8_tellAll_16 rfl hl (by decide) rfl (fun ls hl => ?_)
      refine lv_iload_n hx hb dX8_tellAll_17 rfl (lv_at hl 0 rfl) ?_
      refine lv_if_ge (tgt := 23) hx hb dX8_tellAll_18 (by decide) (fun c_18 => ?_) (fun c_18 => ?_)
      rotate_left
      · exact absurd (show (0 : Int32) ≤ nI ((len + 1) / 6) by rw [fz_geN (by omega)]; omega) c_18
      refine lv_aload_n hx hb dX8_tellAll_23 rfl (lv_at hl 1 rfl) ?_
      refine fs_get E hP (k := 239) (v := .ref (fa g 240)) 0 fc8 m_6o (by omega) (by decide) (wm wl_5 (i := 0) rfl) rfl dX8_tellAll_24 ?_
      refine lv_iconst (v := (nI 1)) hx hb dX8_tellAll_27 (by decide) ?_
      refine fs_iald E hP (k := 240) m_6r0 (by omega) (vp_in_nI (by omega) (by omega)) dX8_tellAll_28 ?_
      refine fs_vi (y := (F 0) 1) (congrArg (F 0) (nI_clamp (by omega))) ?_
      refine fs_vi (y := (nI (nT σ))) (hT.k hG) ?_
      refine lv_iload_n hx hb dX8_tellAll_29 rfl (lv_at hl 0 rfl) ?_
      refine lv_iadd hx hb dX8_tellAll_30 ?_
      refine fs_vi (y := nI (nT σ + ((len + 1) / 6))) (nI_add _ _) ?_
      refine lv_bipush (v := (nI 20)) hx hb dX8_tellAll_31 (by decide) ?_
      refine lv_icmp_le (tgt := 39) hx hb dX8_tellAll_33 (by decide) (fun c_33 => ?_) (fun c_33 => ?_)
      · rw [nI_leI (by omega) (by omega)] at c_33
        have c33 : nT σ + (len + 1) / 6 ≤ 20 := by omega
        refine lv_aload_n hx hb dX8_tellAll_39 rfl (lv_at hl 1 rfl) ?_
        have MB_9 : MA g ct_5 (mkz (z 0) (z 1) (z 2) (z 3) (z 4) u5 u6 u7 u8 u9) F := ⟨m_6o, m_6r0, m_6r1, m_6r2, m_6r3, m_6r4, m_6r5, m_6r6, m_6r7, m_6r8⟩
        refine fs_v (va_runV (As := []) (rest := []) E.1 (c_X8_record l g N ct_5 (mkz (z 0) (z 1) (z 2) (z 3) (z 4) u5 u6 u7 u8 u9) F σ (by omega) hG MB_9 hT k hs ⟨hH.1, hH.2⟩) (lk_RX8_105 E.1.2.2.2.2 ⟨Nat.le_of_ble_eq_true rfl, Nat.le_of_ble_eq_true rfl⟩) (fpreV E hP hS fc8 m_6o (by omega)) rfl rfl hl.1 rfl (lv_room (Nat.le_of_ble_eq_true rfl)) dX8_tellAll_40 ⟨Nat.zero_le _, Nat.zero_le _⟩) hS (fun ct_10 H locs p_40 hP hS => ?_)
        obtain ⟨z_11, F_12, M5, hRH5, e5, f50, f52, f53, f54, S_13⟩ := p_40
        have T_14 : SR σ F_12 := fun i hi => by rw [f50]; exact hT i hi
        have m_15o : ct_10 239 = .inr (8, [.ref (fa g 240), .ref (fa g 241), .int (z_11 0), .ref (fa g 242), .ref (fa g 243), .ref (fa g 244), .int (z_11 1), .ref (fa g 245), .int (z_11 2), .ref (fa g 246), .ref (fa g 247), .ref (fa g 248), .int (z_11 3), .int (z_11 4), .int (z_11 5), .int (z_11 6), .int (z_11 7), .int (z_11 8), .int (z_11 9)]) := (M5).1
        have m_15r0 : ct_10 240 = .inl (fcI g, 121, .inl (F_12 0)) := (M5).2.1
        have m_15r1 : ct_10 241 = .inl (fcI g, 726, .inl (F_12 1)) := (M5).2.2.1
        have m_15r2 : ct_10 242 = .inl (fcI g, 242, .inl (F_12 2)) := (M5).2.2.2.1
        have m_15r3 : ct_10 243 = .inl (fcI g, 2, .inl (F_12 3)) := (M5).2.2.2.2.1
        have m_15r4 : ct_10 244 = .inl (fcI g, 60, .inl (F_12 4)) := (M5).2.2.2.2.2.1
        have m_15r5 : ct_10 245 = .inl (fcI g, 6, .inl (F_12 5)) := (M5).2.2.2.2.2.2.1
        have m_15r6 : ct_10 246 = .inl (fcI g, 36, .inl (F_12 6)) := (M5).2.2.2.2.2.2.2.1
        have m_15r7 : ct_10 247 = .inl (fcI g, 20, .inl (F_12 7)) := (M5).2.2.2.2.2.2.2.2.1
        have m_15r8 : ct_10 248 = .inl (fcI g, 20, .inl (F_12 8)) := (M5).2.2.2.2.2.2.2.2.2
        have hQ5 : RP t len z_11 F_12 := ⟨e5.trans hQ.1, hQ.2.1, fun i hi => by rw [f54]; exact hQ.2.2 i hi⟩
        have hpk : padK σ t ((len + 1) / 6) := fun j hj => by
          have := pd_lt hl5 hcs hj
          exact ⟨h1 j hj, (sux_nI (by omega) (by omega) (by omega)).mp (h2 j hj)⟩
        have htl := tlR_ok hG (show nT σ + (len + 1) / 6 ≤ 20 by omega) hpk
        refine lv_aload_n hx hb dX8_tellAll_43 rfl (lv_at hl 1 rfl) ?_
        refine lv_iconst (v := (nI 0)) hx hb dX8_tellAll_44 (by decide) ?_
        refine fs_put E hP hS (k := 239) 14 fc8 m_15o (by omega) (by decide) (wm wl_16 (i := 12) rfl) rfl rfl rfl rfl (Nat.le_of_ble_eq_true rfl) dX8_tellAll_45 (fun ct_16 H locs q_17 hP hS => ?_)
        have h_18 : ct_16 239 = .inr (8, [.ref (fa g 240), .ref (fa g 241), .int (z_11 0), .ref (fa g 242), .ref (fa g 243), .ref (fa g 244), .int (z_11 1), .ref (fa g 245), .int (z_11 2), .ref (fa g 246), .ref (fa g 247), .ref (fa g 248), .int (z_11 3), .int (z_11 4), .int (nI 0), .int (z_11 6), .int (z_11 7), .int (z_11 8), .int (z_11 9)]) := by rw [q_17]; exact fu_eq _ _ _
        have h_19 : ct_16 240 = .inl (fcI g, 121, .inl (F_12 0)) := by rw [q_17]; exact (fu_ne (by omega)).trans m_15r0
        have h_20 : ct_16 241 = .inl (fcI g, 726, .inl (F_12 1)) := by rw [q_17]; exact (fu_ne (by omega)).trans m_15r1
        have h_21 : ct_16 242 = .inl (fcI g, 242, .inl (F_12 2)) := by rw [q_17]; exact (fu_ne (by omega)).trans m_15r2
        have h_22 : ct_16 243 = .inl (fcI g, 2, .inl (F_12 3)) := by rw [q_17]; exact (fu_ne (by omega)).trans m_15r3
        have h_23 : ct_16 244 = .inl (fcI g, 60, .inl (F_12 4)) := by rw [q_17]; exact (fu_ne (by omega)).trans m_15r4
        have h_24 : ct_16 245 = .inl (fcI g, 6, .inl (F_12 5)) := by rw [q_17]; exact (fu_ne (by omega)).trans m_15r5
        have h_25 : ct_16 246 = .inl (fcI g, 36, .inl (F_12 6)) := by rw [q_17]; exact (fu_ne (by omega)).trans m_15r6
        have h_26 : ct_16 247 = .inl (fcI g, 20, .inl (F_12 7)) := by rw [q_17]; exact (fu_ne (by omega)).trans m_15r7
        have h_27 : ct_16 248 = .inl (fcI g, 20, .inl (F_12 8)) := by rw [q_17]; exact (fu_ne (by omega)).trans m_15r8
        have MB_28 : MA g ct_16 (mkz (z_11 0) (z_11 1) (z_11 2) (z_11 3) (z_11 4) (nI 0) (z_11 6) (z_11 7) (z_11 8) (z_11 9)) (mkF (F_12 0) (F_12 1) (F_12 2) (F_12 3) (F_12 4) (F_12 5) (F_12 6) (F_12 7) (F_12 8)) := ⟨h_18, h_19, h_20, h_21, h_22, h_23, h_24, h_25, h_26, h_27⟩
        rw [show (nI 0) = nI (min (6 * 0) len) by rw [show min (6 * 0) len = 0 by omega]] at MB_28
        refine fs_ind (g := g) (N := N) (St := Nat) (fun (j : Nat) (ct_29 : Nat → va_E) (ls : Array Slot) => lv_has ls 2 [(0, .ref (fa g 239)), (1, .int (nI ((len + 1) / 6)))] ∧ ∃ (y6 y7 y8 y9 : Int32) (f0 : Nat → Int32), MA g ct_29 (mkz (z_11 0) (z_11 1) (z_11 2) (z_11 3) (z_11 4) (nI (min (6 * j) len)) y6 y7 y8 y9) (mkF f0 (F_12 1) (F_12 2) (F_12 3) (F_12 4) (F_12 5) (F_12 6) (F_12 7) (F_12 8)) ∧ (j ≤ (len + 1) / 6 ∧ ∀ i, i < 121 → f0 i = tlR σ t j i) ∧ fSame 239 249 ct ct_29) (fun j => (len + 1) / 6 - j) ?_ 0 _ _ ls _ ⟨lv_sub hl [1, 0] rfl, ⟨_, _, _, _, _, MB_28, ⟨Nat.zero_le _, fun i hi => T_14 i hi⟩, (show fSame 239 249 _ _ from (fSame.ap (fSame.tr2 (fSame.tr2 (fSame.tr2 fSame.rf s5 (by omega) (by omega)) s6 (by omega) (by omega)) S_13 (by omega) (by omega)) q_17 (by omega) (by omega)))⟩⟩ hP hS
        clear hl hP hS
        intro st ct_29 H ls locs hI hP hS ih
        obtain ⟨j, rfl⟩ : ∃ z, z = st := ⟨_, rfl⟩
        obtain ⟨hl, y6, y7, y8, y9, f0, hM1, hI, hsm⟩ := hI
        have m_30o : ct_29 239 = .inr (8, [.ref (fa g 240), .ref (fa g 241), .int (z_11 0), .ref (fa g 242), .ref (fa g 243), .ref (fa g 244), .int (z_11 1), .ref (fa g 245), .int (z_11 2), .ref (fa g 246), .ref (fa g 247), .ref (fa g 248), .int (z_11 3), .int (z_11 4), .int (nI (min (6 * j) len)), .int y6, .int y7, .int y8, .int y9]) := (hM1).1
        have m_30r0 : ct_29 240 = .inl (fcI g, 121, .inl f0) := (hM1).2.1
        have m_30r1 : ct_29 241 = .inl (fcI g, 726, .inl (F_12 1)) := (hM1).2.2.1
        have m_30r2 : ct_29 242 = .inl (fcI g, 242, .inl (F_12 2)) := (hM1).2.2.2.1
        have m_30r3 : ct_29 243 = .inl (fcI g, 2, .inl (F_12 3)) := (hM1).2.2.2.2.1
        have m_30r4 : ct_29 244 = .inl (fcI g, 60, .inl (F_12 4)) := (hM1).2.2.2.2.2.1
        have m_30r5 : ct_29 245 = .inl (fcI g, 6, .inl (F_12 5)) := (hM1).2.2.2.2.2.2.1
        have m_30r6 : ct_29 246 = .inl (fcI g, 36, .inl (F_12 6)) := (hM1).2.2.2.2.2.2.2.1
        have m_30r7 : ct_29 247 = .inl (fcI g, 20, .inl (F_12 7)) := (hM1).2.2.2.2.2.2.2.2.1
        have m_30r8 : ct_29 248 = .inl (fcI g, 20, .inl (F_12 8)) := (hM1).2.2.2.2.2.2.2.2.2
        have hI1 := hI.1
        refine lv_aload_n hx hb dX8_tellAll_48 rfl (lv_at hl 0 rfl) ?_
        refine fs_get E hP (k := 239) (v := .int (nI (min (6 * j) len))) 14 fc8 m_30o (by omega) (by decide) (wm wl_16 (i := 12) rfl) rfl dX8_tellAll_49 ?_
        refine lv_aload_n hx hb dX8_tellAll_52 rfl (lv_at hl 0 rfl) ?_
        refine fs_get E hP (k := 239) (v := .int (z_11 1)) 6 fc8 m_30o (by omega) (by decide) (wm wl_16 (i := 13) rfl) rfl dX8_tellAll_53 ?_
        refine fs_vi (y := nI len) hQ5.1 ?_
        refine lv_icmp_ge (tgt := 95) hx hb dX8_tellAll_56 (by decide) (fun c_56 => ?_) (fun c_56 => ?_)
        · rw [nI_leI (by omega) (by omega)] at c_56
          refine lv_aload_n hx hb dX8_tellAll_95 rfl (lv_at hl 0 rfl) ?_
          refine lv_iconst (v := (nI 0)) hx hb dX8_tellAll_96 (by decide) ?_
          refine fs_put E hP hS (k := 239) 6 fc8 m_30o (by omega) (by decide) (wm wl_16 (i := 13) rfl) rfl rfl rfl rfl (Nat.le_of_ble_eq_true rfl) dX8_tellAll_97 (fun ct_31 H locs q_32 hP hS => ?_)
          have h_33 : ct_31 239 = .inr (8, [.ref (fa g 240), .ref (fa g 241), .int (z_11 0), .ref (fa g 242), .ref (fa g 243), .ref (fa g 244), .int (nI 0), .ref (fa g 245), .int (z_11 2), .ref (fa g 246), .ref (fa g 247), .ref (fa g 248), .int (z_11 3), .int (z_11 4), .int (nI (min (6 * j) len)), .int y6, .int y7, .int y8, .int y9]) := by rw [q_32]; exact fu_eq _ _ _
          have h_34 : ct_31 240 = .inl (fcI g, 121, .inl f0) := by rw [q_32]; exact (fu_ne (by omega)).trans m_30r0
          have h_35 : ct_31 241 = .inl (fcI g, 726, .inl (F_12 1)) := by rw [q_32]; exact (fu_ne (by omega)).trans m_30r1
          have h_36 : ct_31 242 = .inl (fcI g, 242, .inl (F_12 2)) := by rw [q_32]; exact (fu_ne (by omega)).trans m_30r2
          have h_37 : ct_31 243 = .inl (fcI g, 2, .inl (F_12 3)) := by rw [q_32]; exact (fu_ne (by omega)).trans m_30r3
          have h_38 : ct_31 244 = .inl (fcI g, 60, .inl (F_12 4)) := by rw [q_32]; exact (fu_ne (by omega)).trans m_30r4
          have h_39 : ct_31 245 = .inl (fcI g, 6, .inl (F_12 5)) := by rw [q_32]; exact (fu_ne (by omega)).trans m_30r5
          have h_40 : ct_31 246 = .inl (fcI g, 36, .inl (F_12 6)) := by rw [q_32]; exact (fu_ne (by omega)).trans m_30r6
          have h_41 : ct_31 247 = .inl (fcI g, 20, .inl (F_12 7)) := by rw [q_32]; exact (fu_ne (by omega)).trans m_30r7
          have h_42 : ct_31 248 = .inl (fcI g, 20, .inl (F_12 8)) := by rw [q_32]; exact (fu_ne (by omega)).trans m_30r8
          refine lv_iload_n hx hb dX8_tellAll_100 rfl (lv_at hl 1 rfl) ?_
          have MB_43 : MA g ct_31 (mkz (z_11 0) (nI 0) (z_11 2) (z_11 3) (z_11 4) (nI (min (6 * j) len)) y6 y7 y8 y9) (mkF f0 (F_12 1) (F_12 2) (F_12 3) (F_12 4) (F_12 5) (F_12 6) (F_12 7) (F_12 8)) := ⟨h_33, h_34, h_35, h_36, h_37, h_38, h_39, h_40, h_41, h_42⟩
          obtain rfl : j = (len + 1) / 6 := by omega
          refine fs_iret E hr hlk hP hS dX8_tellAll_101 ?_
          refine ⟨?_, ?_, (show fSame 239 249 _ _ from (fSame.ap (fSame.tr2 fSame.rf hsm (by omega) (by omega)) q_32 (by omega) (by omega)))⟩
          · rw [if_neg (fun z => z c_6), if_neg (fun z => z h1), if_neg (fun z => z h2), if_neg (fun z => z c33)]
          · rw [if_pos ⟨⟨⟨c_6, h1⟩, h2⟩, c33⟩, if_pos ⟨⟨⟨c_6, h1⟩, h2⟩, c33⟩, if_pos ⟨⟨⟨c_6, h1⟩, h2⟩, c33⟩, if_pos ⟨⟨⟨c_6, h1⟩, h2⟩, c33⟩]
            exact ⟨_, _, MB_43, hI.2, ⟨hRH5.1, hRH5.2⟩, ⟨(congrFun f53 0).trans hS9.1, (congrFun f53 1).trans hS9.2.1, fun h j hj => (congrFun f52 j).trans (hS9.2.2.1 h j hj), fun h j hj => (congrFun f52 _).trans (hS9.2.2.2 h j hj)⟩, ⟨rfl, by omega, fun i hi => absurd hi (by omega)⟩⟩
        · rw [nI_leI (by omega) (by omega)] at c_56
          have hjm : j < (len + 1) / 6 := by omega
          have hpd := pd_lt hl5 hcs hjm
          have htj := htl j hI1
          rw [show min (6 * j) len = 6 * j by omega] at hM1
          have m_44o : ct_29 239 = .inr (8, [.ref (fa g 240), .ref (fa g 241), .int (z_11 0), .ref (fa g 242), .ref (fa g 243), .ref (fa g 244), .int (z_11 1), .ref (fa g 245), .int (z_11 2), .ref (fa g 246), .ref (fa g 247), .ref (fa g 248), .int (z_11 3), .int (z_11 4), .int (nI (6 * j)), .int y6, .int y7, .int y8, .int y9]) := (hM1).1
          have m_44r0 : ct_29 240 = .inl (fcI g, 121, .inl f0) := (hM1).2.1
          have m_44r1 : ct_29 241 = .inl (fcI g, 726, .inl (F_12 1)) := (hM1).2.2.1
          have m_44r2 : ct_29 242 = .inl (fcI g, 242, .inl (F_12 2)) := (hM1).2.2.2.1
          have m_44r3 : ct_29 243 = .inl (fcI g, 2, .inl (F_12 3)) := (hM1).2.2.2.2.1
          have m_44r4 : ct_29 244 = .inl (fcI g, 60, .inl (F_12 4)) := (hM1).2.2.2.2.2.1
          have m_44r5 : ct_29 245 = .inl (fcI g, 6, .inl (F_12 5)) := (hM1).2.2.2.2.2.2.1
          have m_44r6 : ct_29 246 = .inl (fcI g, 36, .inl (F_12 6)) := (hM1).2.2.2.2.2.2.2.1
          have m_44r7 : ct_29 247 = .inl (fcI g, 20, .inl (F_12 7)) := (hM1).2.2.2.2.2.2.2.2.1
          have m_44r8 : ct_29 248 = .inl (fcI g, 20, .inl (F_12 8)) := (hM1).2.2.2.2.2.2.2.2.2
          refine lv_aload_n hx hb dX8_tellAll_59 rfl (lv_at hl 0 rfl) ?_
          have MB_45 : MA g ct_29 (mkz (z_11 0) (z_11 1) (z_11 2) (z_11 3) (z_11 4) (nI (6 * j)) y6 y7 y8 y9) (mkF f0 (F_12 1) (F_12 2) (F_12 3) (F_12 4) (F_12 5) (F_12 6) (F_12 7) (F_12 8)) := ⟨m_44o, m_44r0, m_44r1, m_44r2, m_44r3, m_44r4, m_44r5, m_44r6, m_44r7, m_44r8⟩
          refine fs_i (va_runV (As := []) (rest := []) E.1 (c_X8_readsRumour l g N ct_29 z_11 (mkF f0 (F_12 1) (F_12 2) (F_12 3) (F_12 4) (F_12 5) (F_12 6) (F_12 7) (F_12 8)) t len (6 * j) y6 y7 y8 y9 (by omega) MB_45 ⟨hQ5.1, hQ5.2⟩ h128 (by omega) (by omega)) (lk_RX8_121 E.1.2.2.2.2 ⟨Nat.le_of_ble_eq_true rfl, Nat.le_of_ble_eq_true rfl⟩) (fpreV E hP hS fc8 m_44o (by omega)) rfl rfl hl.1 rfl (lv_room (Nat.le_of_ble_eq_true rfl)) dX8_tellAll_60 ⟨Nat.zero_le _, Nat.zero_le _⟩) hS (fun r_60 ct_46 H locs p_60 hP hS => ?_)
          obtain ⟨u_60, s_60⟩ := p_60
          rcases u_60 with ⟨A_60, e_60, M_60⟩ | ⟨b9, w6, w7, w8, w9, A_60, e_60, M_60⟩
          rotate_left
          · exact absurd A_60 (rd_not hcs (by omega))
          have m_47o : ct_46 239 = .inr (8, [.ref (fa g 240), .ref (fa g 241), .int (z_11 0), .ref (fa g 242), .ref (fa g 243), .ref (fa g 244), .int (z_11 1), .ref (fa g 245), .int (z_11 2), .ref (fa g 246), .ref (fa g 247), .ref (fa g 248), .int (z_11 3), .int (z_11 4), .int (nI (6 * j + 5)), .int (nI (t (6 * j) - 48)), .int (nI (kdn (t ((6 * j) + 3)))), .int (nI (t ((6 * j) + 2) - 48)), .int (nI (t ((6 * j) + 4) - 48))]) := (M_60).1
          have m_47r0 : ct_46 240 = .inl (fcI g, 121, .inl f0) := (M_60).2.1
          have m_47r1 : ct_46 241 = .inl (fcI g, 726, .inl (F_12 1)) := (M_60).2.2.1
          have m_47r2 : ct_46 242 = .inl (fcI g, 242, .inl (F_12 2)) := (M_60).2.2.2.1
          have m_47r3 : ct_46 243 = .inl (fcI g, 2, .inl (F_12 3)) := (M_60).2.2.2.2.1
          have m_47r4 : ct_46 244 = .inl (fcI g, 60, .inl (F_12 4)) := (M_60).2.2.2.2.2.1
          have m_47r5 : ct_46 245 = .inl (fcI g, 6, .inl (F_12 5)) := (M_60).2.2.2.2.2.2.1
          have m_47r6 : ct_46 246 = .inl (fcI g, 36, .inl (F_12 6)) := (M_60).2.2.2.2.2.2.2.1
          have m_47r7 : ct_46 247 = .inl (fcI g, 20, .inl (F_12 7)) := (M_60).2.2.2.2.2.2.2.2.1
          have m_47r8 : ct_46 248 = .inl (fcI g, 20, .inl (F_12 8)) := (M_60).2.2.2.2.2.2.2.2.2
          refine fs_vi (y := (nI 1)) e_60 ?_
          refine lv_pop hx hb dX8_tellAll_63 rfl ?_
          refine lv_aload_n hx hb dX8_tellAll_64 rfl (lv_at hl 0 rfl) ?_
          refine lv_bipush (v := (nI 44)) hx hb dX8_tellAll_65 (by decide) ?_
          have MB_48 : MA g ct_46 (mkz (z_11 0) (z_11 1) (z_11 2) (z_11 3) (z_11 4) (nI (6 * j + 5)) (nI (t (6 * j) - 48)) (nI (kdn (t ((6 * j) + 3)))) (nI (t ((6 * j) + 2) - 48)) (nI (t ((6 * j) + 4) - 48))) (mkF f0 (F_12 1) (F_12 2) (F_12 3) (F_12 4) (F_12 5) (F_12 6) (F_12 7) (F_12 8)) := ⟨m_47o, m_47r0, m_47r1, m_47r2, m_47r3, m_47r4, m_47r5, m_47r6, m_47r7, m_47r8⟩
          refine fs_i (va_runV (As := [.int (nI 44)]) (rest := []) E.1 (c_X8_isNext l g N ct_46 z_11 (mkF f0 (F_12 1) (F_12 2) (F_12 3) (F_12 4) (F_12 5) (F_12 6) (F_12 7) (F_12 8)) t len (6 * j + 5) (nI (t (6 * j) - 48)) (nI (kdn (t ((6 * j) + 3)))) (nI (t ((6 * j) + 2) - 48)) (nI (t ((6 * j) + 4) - 48)) (by omega) MB_48 ⟨hQ5.1, hQ5.2⟩ h128 (by omega) 44 (by omega)) (lk_RX8_125 E.1.2.2.2.2 ⟨Nat.le_of_ble_eq_true rfl, Nat.le_of_ble_eq_true rfl⟩) (fpreV E hP hS fc8 m_47o (by omega)) rfl rfl hl.1 rfl (lv_room (Nat.le_of_ble_eq_true rfl)) dX8_tellAll_67 ⟨Nat.zero_le _, Nat.zero_le _⟩) hS (fun r_67 ct_49 H locs p_67 hP hS => ?_)
          obtain ⟨u_67, s_67⟩ := p_67
          have M_67 : MA g ct_49 (mkz (z_11 0) (z_11 1) (z_11 2) (z_11 3) (z_11 4) (nI (min (6 * (j + 1)) len)) (nI (pdT t j)) (nI (pdK t j)) (nI (pdA t j)) (nI (pdB t j))) (mkF f0 (F_12 1) (F_12 2) (F_12 3) (F_12 4) (F_12 5) (F_12 6) (F_12 7) (F_12 8)) := by
            rcases u_67 with ⟨A9, e9, M9⟩ | ⟨A9, e9, M9⟩
            · rw [show min (6 * (j + 1)) len = 6 * j + 5 + 1 by omega]; exact M9
            · rw [show min (6 * (j + 1)) len = 6 * j + 5 from pd_end hcs (by omega) A9]; exact M9
          clear u_67
          have m_50o : ct_49 239 = .inr (8, [.ref (fa g 240), .ref (fa g 241), .int (z_11 0), .ref (fa g 242), .ref (fa g 243), .ref (fa g 244), .int (z_11 1), .ref (fa g 245), .int (z_11 2), .ref (fa g 246), .ref (fa g 247), .ref (fa g 248), .int (z_11 3), .int (z_11 4), .int (nI (min (6 * (j + 1)) len)), .int (nI (pdT t j)), .int (nI (pdK t j)), .int (nI (pdA t j)), .int (nI (pdB t j))]) := (M_67).1
          have m_50r0 : ct_49 240 = .inl (fcI g, 121, .inl f0) := (M_67).2.1
          have m_50r1 : ct_49 241 = .inl (fcI g, 726, .inl (F_12 1)) := (M_67).2.2.1
          have m_50r2 : ct_49 242 = .inl (fcI g, 242, .inl (F_12 2)) := (M_67).2.2.2.1
          have m_50r3 : ct_49 243 = .inl (fcI g, 2, .inl (F_12 3)) := (M_67).2.2.2.2.1
          have m_50r4 : ct_49 244 = .inl (fcI g, 60, .inl (F_12 4)) := (M_67).2.2.2.2.2.1
          have m_50r5 : ct_49 245 = .inl (fcI g, 6, .inl (F_12 5)) := (M_67).2.2.2.2.2.2.1
          have m_50r6 : ct_49 246 = .inl (fcI g, 36, .inl (F_12 6)) := (M_67).2.2.2.2.2.2.2.1
          have m_50r7 : ct_49 247 = .inl (fcI g, 20, .inl (F_12 7)) := (M_67).2.2.2.2.2.2.2.2.1
          have m_50r8 : ct_49 248 = .inl (fcI g, 20, .inl (F_12 8)) := (M_67).2.2.2.2.2.2.2.2.2
          refine lv_pop hx hb dX8_tellAll_70 rfl ?_
          refine lv_aload_n hx hb dX8_tellAll_71 rfl (lv_at hl 0 rfl) ?_
          refine lv_aload_n hx hb dX8_tellAll_72 rfl (lv_at hl 0 rfl) ?_
          refine fs_get E hP (k := 239) (v := .int (nI (pdT t j))) 15 fc8 m_50o (by omega) (by decide) (wm wl_16 (i := 14) rfl) rfl dX8_tellAll_73 ?_
          refine lv_aload_n hx hb dX8_tellAll_76 rfl (lv_at hl 0 rfl) ?_
          refine fs_get E hP (k := 239) (v := .int (nI (pdK t j))) 16 fc8 m_50o (by omega) (by decide) (wm wl_16 (i := 15) rfl) rfl dX8_tellAll_77 ?_
          refine lv_aload_n hx hb dX8_tellAll_80 rfl (lv_at hl 0 rfl) ?_
          refine fs_get E hP (k := 239) (v := .int (nI (pdA t j))) 17 fc8 m_50o (by omega) (by decide) (wm wl_16 (i := 16) rfl) rfl dX8_tellAll_81 ?_
          refine lv_aload_n hx hb dX8_tellAll_84 rfl (lv_at hl 0 rfl) ?_
          refine fs_get E hP (k := 239) (v := .int (nI (pdB t j))) 18 fc8 m_50o (by omega) (by decide) (wm wl_16 (i := 17) rfl) rfl dX8_tellAll_85 ?_
          have MB_51 : MA g ct_49 (mkz (z_11 0) (z_11 1) (z_11 2) (z_11 3) (z_11 4) (nI (min (6 * (j + 1)) len)) (nI (pdT t j)) (nI (pdK t j)) (nI (pdA t j)) (nI (pdB t j))) (mkF f0 (F_12 1) (F_12 2) (F_12 3) (F_12 4) (F_12 5) (F_12 6) (F_12 7) (F_12 8)) := ⟨m_50o, m_50r0, m_50r1, m_50r2, m_50r3, m_50r4, m_50r5, m_50r6, m_50r7, m_50r8⟩
          refine fs_i (va_runV (As := [.int (nI (pdT t j)), .int (nI (pdK t j)), .int (nI (pdA t j)), .int (nI (pdB t j))]) (rest := []) E.1 (c_X8_tells l g N ct_49 (mkz (z_11 0) (z_11 1) (z_11 2) (z_11 3) (z_11 4) (nI (min (6 * (j + 1)) len)) (nI (pdT t j)) (nI (pdK t j)) (nI (pdA t j)) (nI (pdB t j))) (mkF f0 (F_12 1) (F_12 2) (F_12 3) (F_12 4) (F_12 5) (F_12 6) (F_12 7) (F_12 8)) (tlR σ t j) (by omega) htj.1 MB_51 hI.2 (pdT t j) (pdK t j) (pdA t j) (pdB t j) (by omega)) (lk_RX8_111 E.1.2.2.2.2 ⟨Nat.le_of_ble_eq_true rfl, Nat.le_of_ble_eq_true rfl⟩) (fpreV E hP hS fc8 m_50o (by omega)) rfl rfl hl.1 rfl (lv_room (Nat.le_of_ble_eq_true rfl)) dX8_tellAll_88 ⟨Nat.zero_le _, Nat.zero_le _⟩) hS (fun r_88 ct_52 H locs p_88 hP hS => ?_)
          obtain ⟨fb5, eb5, hb5⟩ := p_88.2
          have M_53 := MA.f0 MB_51 eb5
          have m_55o : ct_52 239 = .inr (8, [.ref (fa g 240), .ref (fa g 241), .int (z_11 0), .ref (fa g 242), .ref (fa g 243), .ref (fa g 244), .int (z_11 1), .ref (fa g 245), .int (z_11 2), .ref (fa g 246), .ref (fa g 247), .ref (fa g 248), .int (z_11 3), .int (z_11 4), .int (nI (min (6 * (j + 1)) len)), .int (nI (pdT t j)), .int (nI (pdK t j)), .int (nI (pdA t j)), .int (nI (pdB t j))]) := (M_53).1
          have m_55r0 : ct_52 240 = .inl (fcI g, 121, .inl fb5) := (M_53).2.1
          have m_55r1 : ct_52 241 = .inl (fcI g, 726, .inl (F_12 1)) := (M_53).2.2.1
          have m_55r2 : ct_52 242 = .inl (fcI g, 242, .inl (F_12 2)) := (M_53).2.2.2.1
          have m_55r3 : ct_52 243 = .inl (fcI g, 2, .inl (F_12 3)) := (M_53).2.2.2.2.1
          have m_55r4 : ct_52 244 = .inl (fcI g, 60, .inl (F_12 4)) := (M_53).2.2.2.2.2.1
          have m_55r5 : ct_52 245 = .inl (fcI g, 6, .inl (F_12 5)) := (M_53).2.2.2.2.2.2.1
          have m_55r6 : ct_52 246 = .inl (fcI g, 36, .inl (F_12 6)) := (M_53).2.2.2.2.2.2.2.1
          have m_55r7 : ct_52 247 = .inl (fcI g, 20, .inl (F_12 7)) := (M_53).2.2.2.2.2.2.2.2.1
          have m_55r8 : ct_52 248 = .inl (fcI g, 20, .inl (F_12 8)) := (M_53).2.2.2.2.2.2.2.2.2
          refine lv_pop hx hb dX8_tellAll_91 rfl ?_
          refine lv_goto (tgt := 48) hx hb dX8_tellAll_92 (by decide) ?_
          have MB_56 : MA g ct_52 (mkz (z_11 0) (z_11 1) (z_11 2) (z_11 3) (z_11 4) (nI (min (6 * (j + 1)) len)) (nI (pdT t j)) (nI (pdK t j)) (nI (pdA t j)) (nI (pdB t j))) (mkF fb5 (F_12 1) (F_12 2) (F_12 3) (F_12 4) (F_12 5) (F_12 6) (F_12 7) (F_12 8)) := ⟨m_55o, m_55r0, m_55r1, m_55r2, m_55r3, m_55r4, m_55r5, m_55r6, m_55r7, m_55r8⟩
          exact ih (j + 1) _ _ ls _ (by (try dsimp only); omega) ⟨lv_sub hl [0, 1] rfl, ⟨_, _, _, _, _, MB_56, ⟨by omega, hb5⟩, (show fSame 239 249 _ _ from (fSame.ap (fSame.tr2 (fSame.tr2 (fSame.tr2 fSame.rf hsm (by omega) (by omega)) s_60 (by omega) (by omega)) s_67 (by omega) (by omega)) eb5 (by omega) (by omega)))⟩⟩ hP hS
      · rw [nI_leI (by omega) (by omega)] at c_33
        have c38 : ¬ nT σ + (len + 1) / 6 ≤ 20 := by omega
        refine lv_bipush (v := (-4)) hx hb dX8_tellAll_36 (by decide) ?_
        have MB_57 : MA g ct_5 (mkz (z 0) (z 1) (z 2) (z 3) (z 4) u5 u6 u7 u8 u9) F := ⟨m_6o, m_6r0, m_6r1, m_6r2, m_6r3, m_6r4, m_6r5, m_6r6, m_6r7, m_6r8⟩
        have hR9 : RFAt g ct_5 σ k hs u1 s1 u2 s2 t len := RFAt.kk hT hH hS9 hQ MB_57 ⟨⟨rfl, rfl⟩, rfl, rfl, rfl, rfl, rfl⟩
        refine fs_iret E hr hlk hP hS dX8_tellAll_38 ?_
        refine ⟨?_, ?_, (show fSame 239 249 _ _ from (fSame.tr2 (fSame.tr2 fSame.rf s5 (by omega) (by omega)) s6 (by omega) (by omega)))⟩
        · rw [if_neg (fun z => z c_6), if_neg (fun z => z h1), if_neg (fun z => z h2), if_pos c38]
        · rw [if_neg (fun z => c38 z.2), if_neg (fun z => c38 z.2), if_neg (fun z => c38 z.2), if_neg (fun z => c38 z.2)]; exact hR9
  · refine lv_bipush (v := (-3)) hx hb dX8_tellAll_9 (by decide) ?_
    have MB_58 : MA g ct_2 (mkz (z 0) (z 1) (z 2) (z 3) (z 4) v5 v6 v7 v8 v9) F := ⟨m_3o, m_3r0, m_3r1, m_3r2, m_3r3, m_3r4, m_3r5, m_3r6, m_3r7, m_3r8⟩
    have hR9 : RFAt g ct_2 σ k hs u1 s1 u2 s2 t len := RFAt.kk hT hH hS9 hQ MB_58 ⟨⟨rfl, rfl⟩, rfl, rfl, rfl, rfl, rfl⟩
    refine fs_iret E hr hlk hP hS dX8_tellAll_11 ?_
    refine ⟨?_, ?_, (show fSame 239 249 _ _ from (fSame.tr2 fSame.rf s5 (by omega) (by omega)))⟩
    · rw [if_pos c_6]
    · rw [if_neg (fun z => c_6 z.1.1.1), if_neg (fun z => c_6 z.1.1.1), if_neg (fun z => c_6 z.1.1.1), if_neg (fun z => c_6 z.1.1.1)]; exact hR9
