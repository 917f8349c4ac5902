set_option maxRecDepth 100000 in
set_option maxHeartbeats 4000000 in
theorem c_X8_told (l : Launch) (g : fG) (N : Nat) (ct : Nat → va_E) (z : Nat → Int32) (F : Nat → Nat → Int32) (σ : Nat → Int32) (hN : 249 ≤ N) (hG : Good σ) (hM : MA g ct z F) (hT : SR σ F) (p0 : Nat) (tr : Bool) (hp0 : p0 < 6) : Met l yX8_told (wsU yX8_told cX8_told 5 (some .int)) rX8_told (fPre g N ct [.ref (fa g 239), .int (nI p0), .int (bI (tr = true))]) (fQi g N (fun r ct1 => r = nI (cN (fun i => decide (rk σ i 0 = p0) && (!tr || hdr σ (lkf σ) i)) (nT σ)) ∧ ∃ (z1 : Nat → Int32) (F1 : Nat → Nat → Int32), MA g ct1 z1 F1 ∧ KK z F z1 F1 ∧ fSame 239 249 ct ct1)) 0 0 (fB g) := by
  refine fs_start (own := RX8) (lv0 := [(0, .ref (fa g 239)), (1, .int (nI p0)), (2, .int (bI (tr = true)))]) (by decide) rfl (Nat.le_of_ble_eq_true rfl) rfl ?_
  intro p e s m args below meth c ls E hr hlk hnm hP hl hS
  have hx := E.1.1
  have hb := E.1.2.1
  have m_1o : ct 239 = .inr (8, [.ref (fa g 240), .ref (fa g 241), .int (z 0), .ref (fa g 242), .ref (fa g 243), .ref (fa g 244), .int (z 1), .ref (fa g 245), .int (z 2), .ref (fa g 246), .ref (fa g 247), .ref (fa g 248), .int (z 3), .int (z 4), .int (z 5), .int (z 6), .int (z 7), .int (z 8), .int (z 9)]) := (hM).1
  have m_1r0 : ct 240 = .inl (fcI g, 121, .inl (F 0)) := (hM).2.1
  have m_1r1 : ct 241 = .inl (fcI g, 726, .inl (F 1)) := (hM).2.2.1
  have m_1r2 : ct 242 = .inl (fcI g, 242, .inl (F 2)) := (hM).2.2.2.1
  have m_1r3 : ct 243 = .inl (fcI g, 2, .inl (F 3)) := (hM).2.2.2.2.1
  have m_1r4 : ct 244 = .inl (fcI g, 60, .inl (F 4)) := (hM).2.2.2.2.2.1
  have m_1r5 : ct 245 = .inl (fcI g, 6, .inl (F 5)) := (hM).2.2.2.2.2.2.1
  have m_1r6 : ct 246 = .inl (fcI g, 36, .inl (F 6)) := (hM).2.2.2.2.2.2.2.1
  have m_1r7 : ct 247 = .inl (fcI g, 20, .inl (F 7)) := (hM).2.2.2.2.2.2.2.2.1
  have m_1r8 : ct 248 = .inl (fcI g, 20, .inl (F 8)) := (hM).2.2.2.2.2.2.2.2.2
  have hn3 := hG.n3
  have hn6 := hG.n6
  have hk20 := hG.k
  refine lv_iconst (v := (nI 0)) hx hb dX8_told_0 (by decide) ?_
  refine lv_istore_n (lv' := [(3, .int (nI 0)), (0, .ref (fa g 239)), (1, .int (nI p0)), (2, .int (bI (tr = true)))]) hx hb dX8_told_1 rfl hl (by decide) rfl (fun ls hl => ?_)
  refine lv_iconst (v := (nI 0)) hx hb dX8_told_2 (by decide) ?_
  refine lv_istore (lv' := [(4, .int (nI 0)), (3, .int (nI 0)), (0, .ref (fa g 239)), (1, .int (nI p0)), (2, .int (bI (tr = true)))]) hx hb dX8_told_3 hl (by decide) rfl (fun ls hl => ?_)
  have MA_2 : MA g ct (mkz (z 0) (z 1) (z 2) (z 3) (z 4) (z 5) (z 6) (z 7) (z 8) (z 9)) (mkF (F 0) (F 1) (F 2) (F 3) (F 4) (F 5) (F 6) (F 7) (F 8)) := ⟨m_1o, m_1r0, m_1r1, m_1r2, m_1r3, m_1r4, m_1r5, m_1r6, m_1r7, m_1r8⟩
  refine fs_ind (g := g) (N := N) (St := Nat) (fun (i : Nat) (ct_3 : Nat → va_E) (ls : Array Slot) => lv_has ls 5 [(0, .ref (fa g 239)), (1, .int (nI p0)), (2, .int (bI (tr = true))), (3, .int (nI (cN (fun i => decide (rk σ i 0 = p0) && (!tr || hdr σ (lkf σ) i)) i))), (4, .int (nI i))] ∧ ∃ (z1 : Nat → Int32) (F1 : Nat → Nat → Int32), MA g ct_3 z1 F1 ∧ (i ≤ nT σ ∧ KK z F z1 F1) ∧ fSame 239 249 ct ct_3) (fun i => nT σ - i) ?_ 0 _ _ ls _ ⟨lv_sub hl [2, 3, 4, 1, 0] rfl, ⟨(mkz (z 0) (z 1) (z 2) (z 3) (z 4) (z 5) (z 6) (z 7) (z 8) (z 9)), (mkF (F 0) (F 1) (F 2) (F 3) (F 4) (F 5) (F 6) (F 7) (F 8)), MA_2, ⟨Nat.zero_le _, ⟨⟨rfl, rfl⟩, rfl, rfl, rfl, rfl, rfl⟩⟩, (show fSame 239 249 _ _ from fSame.rf)⟩⟩ hP hS
  clear hl hP hS
  intro st ct_3 H ls locs hI hP hS ih
  obtain ⟨i, rfl⟩ : ∃ z, z = st := ⟨_, rfl⟩
  obtain ⟨hl, z1, F1, hM1, hI, hsm⟩ := hI
  have m_4o : ct_3 239 = .inr (8, [.ref (fa g 240), .ref (fa g 241), .int (z1 0), .ref (fa g 242), .ref (fa g 243), .ref (fa g 244), .int (z1 1), .ref (fa g 245), .int (z1 2), .ref (fa g 246), .ref (fa g 247), .ref (fa g 248), .int (z1 3), .int (z1 4), .int (z1 5), .int (z1 6), .int (z1 7), .int (z1 8), .int (z1 9)]) := (hM1).1
  have m_4r0 : ct_3 240 = .inl (fcI g, 121, .inl (F1 0)) := (hM1).2.1
  have m_4r1 : ct_3 241 = .inl (fcI g, 726, .inl (F1 1)) := (hM1).2.2.1
  have m_4r2 : ct_3 242 = .inl (fcI g, 242, .inl (F1 2)) := (hM1).2.2.2.1
  have m_4r3 : ct_3 243 = .inl (fcI g, 2, .inl (F1 3)) := (hM1).2.2.2.2.1
  have m_4r4 : ct_3 244 = .inl (fcI g, 60, .inl (F1 4)) := (hM1).2.2.2.2.2.1
  have m_4r5 : ct_3 245 = .inl (fcI g, 6, .inl (F1 5)) := (hM1).2.2.2.2.2.2.1
  have m_4r6 : ct_3 246 = .inl (fcI g, 36, .inl (F1 6)) := (hM1).2.2.2.2.2.2.2.1
  have m_4r7 : ct_3 247 = .inl (fcI g, 20, .inl (F1 7)) := (hM1).2.2.2.2.2.2.2.2.1
  have m_4r8 : ct_3 248 = .inl (fcI g, 20, .inl (F1 8)) := (hM1).2.2.2.2.2.2.2.2.2
  have hI1 := hI.1
  have hTl := KK.sr hI.2 hT
  refine lv_iload hx hb dX8_told_5 (lv_at hl 4 rfl) ?_
  refine lv_aload_n hx hb dX8_told_7 rfl (lv_at hl 0 rfl) ?_
  refine fs_get E hP (k := 239) (v := .ref (fa g 240)) 0 fc8 m_4o (by omega) (by decide) (wm wl_5 (i := 0) rfl) rfl dX8_told_8 ?_
  refine lv_iconst (v := (nI 1)) hx hb dX8_told_11 (by decide) ?_
  refine fs_iald E hP (k := 240) m_4r0 (by omega) (vp_in_nI (by omega) (by omega)) dX8_told_12 ?_
  refine fs_vi (y := (F1 0) 1) (congrArg (F1 0) (nI_clamp (by omega))) ?_
  refine fs_vi (y := (nI (nT σ))) (hTl.k hG) ?_
  refine lv_icmp_ge (tgt := 54) hx hb dX8_told_13 (by decide) (fun c_13 => ?_) (fun c_13 => ?_)
  · rw [nI_leI (by omega) (by omega)] at c_13
    have hin : nT σ = i := by omega
    refine lv_iload_n hx hb dX8_told_54 rfl (lv_at hl 3 rfl) ?_
    have MA8 : MA g ct_3 (mkz (z1 0) (z1 1) (z1 2) (z1 3) (z1 4) (z1 5) (z1 6) (z1 7) (z1 8) (z1 9)) (mkF (F1 0) (F1 1) (F1 2) (F1 3) (F1 4) (F1 5) (F1 6) (F1 7) (F1 8)) := ⟨m_4o, m_4r0, m_4r1, m_4r2, m_4r3, m_4r4, m_4r5, m_4r6, m_4r7, m_4r8⟩
    refine fs_iret E hr hlk hP hS dX8_told_55 ?_
    exact ⟨by rw [hin], (mkz (z1 0) (z1 1) (z1 2) (z1 3) (z1 4) (z1 5) (z1 6) (z1 7) (z1 8) (z1 9)), (mkF (F1 0) (F1 1) (F1 2) (F1 3) (F1 4) (F1 5) (F1 6) (F1 7) (F1 8)), MA8, hI.2, (show fSame 239 249 _ _ from fSame.tr hsm fSame.rf)⟩
  · rw [nI_leI (by omega) (by omega)] at c_13
    refine lv_iload_n hx hb dX8_told_16 rfl (lv_at hl 3 rfl) ?_
    refine lv_aload_n hx hb dX8_told_17 rfl (lv_at hl 0 rfl) ?_
    refine lv_iload hx hb dX8_told_18 (lv_at hl 4 rfl) ?_
    refine lv_iconst (v := (nI 0)) hx hb dX8_told_20 (by decide) ?_
    refine fs_pi (va_runV (As := [.int (nI i), .int (nI 0)]) (rest := [.int (nI (cN (fun i => decide (rk σ i 0 = p0) && (!tr || hdr σ (lkf σ) i)) i))]) E.1 (c_X8_part l g N ct_3 z1 F1 σ (by omega) hG hM1 hTl i 0 (by omega)) (lk_RX8_53 E.1.2.2.2.2 ⟨Nat.le_of_ble_eq_true rfl, Nat.le_of_ble_eq_true rfl⟩) (fpreV E hP hS fc8 m_4o (by omega)) rfl rfl hl.1 rfl (lv_room (Nat.le_of_ble_eq_true rfl)) dX8_told_21 ⟨Nat.zero_le _, Nat.zero_le _⟩) hS (fun r_21 locs p_21 hS => ?_)
    refine fs_vi (y := (nI (rk σ i 0))) (p_21.trans ((hG.r (by omega)).1 0 (by omega))) ?_
    have hte := (hG.r (show i < nT σ by omega)).2.1
    refine lv_iload_n hx hb dX8_told_24 rfl (lv_at hl 1 rfl) ?_
    refine lv_icmp_ne (tgt := 45) hx hb dX8_told_25 (by decide) (fun c_25 => ?_) (fun c_25 => ?_)
    · rw [nI_eq (by omega) (by omega)] at c_25
      refine lv_iconst (v := (nI 0)) hx hb dX8_told_45 (by decide) ?_
      refine lv_iadd hx hb dX8_told_46 ?_
      refine fs_vi (y := (nI (cN (fun i => decide (rk σ i 0 = p0) && (!tr || hdr σ (lkf σ) i)) (i + 1)))) (by rw [cN_f (by rw [decide_eq_false c_25]; rfl)]; exact nI_add _ 0) ?_
      refine lv_istore_n (lv' := [(3, .int (nI (cN (fun i => decide (rk σ i 0 = p0) && (!tr || hdr σ (lkf σ) i)) (i + 1)))), (0, .ref (fa g 239)), (1, .int (nI p0)), (2, .int (bI (tr = true))), (4, .int (nI i))]) hx hb dX8_told_47 rfl hl (by decide) rfl (fun ls hl => ?_)
      refine lv_iinc (v := (nI (i + 1))) (lv' := [(4, .int (nI (i + 1))), (3, .int (nI (cN (fun i => decide (rk σ i 0 = p0) && (!tr || hdr σ (lkf σ) i)) (i + 1)))), (0, .ref (fa g 239)), (1, .int (nI p0)), (2, .int (bI (tr = true)))]) hx hb dX8_told_48 hl (k := 4) rfl (nI_1 _) (by decide) rfl (fun ls hl => ?_)
      refine lv_goto (tgt := 5) hx hb dX8_told_51 (by decide) ?_
      have MA9 : MA g ct_3 (mkz (z1 0) (z1 1) (z1 2) (z1 3) (z1 4) (z1 5) (z1 6) (z1 7) (z1 8) (z1 9)) (mkF (F1 0) (F1 1) (F1 2) (F1 3) (F1 4) (F1 5) (F1 6) (F1 7) (F1 8)) := ⟨m_4o, m_4r0, m_4r1, m_4r2, m_4r3, m_4r4, m_4r5, m_4r6, m_4r7, m_4r8⟩
      exact ih (i + 1) _ _ ls _ (by (try dsimp only); omega) ⟨lv_sub hl [2, 3, 4, 1, 0] rfl, ⟨_, _, MA9, ⟨by omega, hI.2⟩, (show fSame 239 249 _ _ from fSame.tr hsm fSame.rf)⟩⟩ hP hS
    · rw [nI_eq (by omega) (by omega)] at c_25
      refine lv_iload_n hx hb dX8_told_28 rfl (lv_at hl 2 rfl) ?_
      refine lv_if_eq (tgt := 41) hx hb dX8_told_29 (by decide) (fun c_29 => ?_) (fun c_29 => ?_)
      · have c_29 := (fb_0 rfl).mp c_29
        refine lv_iconst (v := (nI 1)) hx hb dX8_told_41 (by decide) ?_
        refine lv_goto (tgt := 46) hx hb dX8_told_42 (by decide) ?_
        refine lv_iadd hx hb dX8_told_46 ?_
        refine fs_vi (y := (nI (cN (fun i => decide (rk σ i 0 = p0) && (!tr || hdr σ (lkf σ) i)) (i + 1)))) (by rw [cN_t (by rw [decide_eq_true c_25, Bool.eq_false_iff.mpr c_29]; rfl)]; exact nI_1 _) ?_
        refine lv_istore_n (lv' := [(3, .int (nI (cN (fun i => decide (rk σ i 0 = p0) && (!tr || hdr σ (lkf σ) i)) (i + 1)))), (0, .ref (fa g 239)), (1, .int (nI p0)), (2, .int (bI (tr = true))), (4, .int (nI i))]) hx hb dX8_told_47 rfl hl (by decide) rfl (fun ls hl => ?_)
        refine lv_iinc (v := (nI (i + 1))) (lv' := [(4, .int (nI (i + 1))), (3, .int (nI (cN (fun i => decide (rk σ i 0 = p0) && (!tr || hdr σ (lkf σ) i)) (i + 1)))), (0, .ref (fa g 239)), (1, .int (nI p0)), (2, .int (bI (tr = true)))]) hx hb dX8_told_48 hl (k := 4) rfl (nI_1 _) (by decide) rfl (fun ls hl => ?_)
        refine lv_goto (tgt := 5) hx hb dX8_told_51 (by decide) ?_
        have MA9 : MA g ct_3 (mkz (z1 0) (z1 1) (z1 2) (z1 3) (z1 4) (z1 5) (z1 6) (z1 7) (z1 8) (z1 9)) (mkF (F1 0) (F1 1) (F1 2) (F1 3) (F1 4) (F1 5) (F1 6) (F1 7) (F1 8)) := ⟨m_4o, m_4r0, m_4r1, m_4r2, m_4r3, m_4r4, m_4r5, m_4r6, m_4r7, m_4r8⟩
        exact ih (i + 1) _ _ ls _ (by (try dsimp only); omega) ⟨lv_sub hl [2, 3, 4, 1, 0] rfl, ⟨_, _, MA9, ⟨by omega, hI.2⟩, (show fSame 239 249 _ _ from fSame.tr hsm fSame.rf)⟩⟩ hP hS
      · have c_29 := (fb_1 rfl).mp c_29
        refine lv_aload_n hx hb dX8_told_32 rfl (lv_at hl 0 rfl) ?_
        refine lv_iload hx hb dX8_told_33 (lv_at hl 4 rfl) ?_
        refine fs_i (va_runV (As := [.int (nI i)]) (rest := [.int (nI (cN (fun i => decide (rk σ i 0 = p0) && (!tr || hdr σ (lkf σ) i)) i))]) E.1 (c_X8_isTrue l g N ct_3 z1 F1 σ (by omega) hG hM1 hTl i (by omega)) (lk_RX8_156 E.1.2.2.2.2 ⟨Nat.le_of_ble_eq_true rfl, Nat.le_of_ble_eq_true rfl⟩) (fpreV E hP hS fc8 m_4o (by omega)) rfl rfl hl.1 rfl (lv_room (Nat.le_of_ble_eq_true rfl)) dX8_told_35 ⟨Nat.zero_le _, Nat.zero_le _⟩) hS (fun r_35 ct_5 H locs p_35 hP hS => ?_)
        have p_35t := p_35.1
        obtain ⟨fw_6, ew_7, hw_8⟩ := p_35.2
        have M_10 := MA.f5 hM1 ew_7
        have m_12o : ct_5 239 = .inr (8, [.ref (fa g 240), .ref (fa g 241), .int (z1 0), .ref (fa g 242), .ref (fa g 243), .ref (fa g 244), .int (z1 1), .ref (fa g 245), .int (z1 2), .ref (fa g 246), .ref (fa g 247), .ref (fa g 248), .int (z1 3), .int (z1 4), .int (z1 5), .int (z1 6), .int (z1 7), .int (z1 8), .int (z1 9)]) := (M_10).1
        have m_12r0 : ct_5 240 = .inl (fcI g, 121, .inl (F1 0)) := (M_10).2.1
        have m_12r1 : ct_5 241 = .inl (fcI g, 726, .inl (F1 1)) := (M_10).2.2.1
        have m_12r2 : ct_5 242 = .inl (fcI g, 242, .inl (F1 2)) := (M_10).2.2.2.1
        have m_12r3 : ct_5 243 = .inl (fcI g, 2, .inl (F1 3)) := (M_10).2.2.2.2.1
        have m_12r4 : ct_5 244 = .inl (fcI g, 60, .inl (F1 4)) := (M_10).2.2.2.2.2.1
        have m_12r5 : ct_5 245 = .inl (fcI g, 6, .inl fw_6) := (M_10).2.2.2.2.2.2.1
        have m_12r6 : ct_5 246 = .inl (fcI g, 36, .inl (F1 6)) := (M_10).2.2.2.2.2.2.2.1
        have m_12r7 : ct_5 247 = .inl (fcI g, 20, .inl (F1 7)) := (M_10).2.2.2.2.2.2.2.2.1
        have m_12r8 : ct_5 248 = .inl (fcI g, 20, .inl (F1 8)) := (M_10).2.2.2.2.2.2.2.2.2
        have T_11 : SR σ (uF F1 5 fw_6) := fun i hi => hTl i hi
        have hW_9 : WR σ (lkf σ) (uF F1 5 fw_6) := fun p hp => hw_8 p hp
        refine lv_if_eq (tgt := 45) hx hb dX8_told_38 (by decide) (fun c_38 => ?_) (fun c_38 => ?_)
        · have c_38 := (fb_0 p_35.1).mp c_38
          refine lv_iconst (v := (nI 0)) hx hb dX8_told_45 (by decide) ?_
          refine lv_iadd hx hb dX8_told_46 ?_
          refine fs_vi (y := (nI (cN (fun i => decide (rk σ i 0 = p0) && (!tr || hdr σ (lkf σ) i)) (i + 1)))) (by rw [cN_f (by rw [c_29, Bool.eq_false_iff.mpr c_38]; exact Bool.and_false _)]; exact nI_add _ 0) ?_
          refine lv_istore_n (lv' := [(3, .int (nI (cN (fun i => decide (rk σ i 0 = p0) && (!tr || hdr σ (lkf σ) i)) (i + 1)))), (0, .ref (fa g 239)), (1, .int (nI p0)), (2, .int (bI (tr = true))), (4, .int (nI i))]) hx hb dX8_told_47 rfl hl (by decide) rfl (fun ls hl => ?_)
          refine lv_iinc (v := (nI (i + 1))) (lv' := [(4, .int (nI (i + 1))), (3, .int (nI (cN (fun i => decide (rk σ i 0 = p0) && (!tr || hdr σ (lkf σ) i)) (i + 1)))), (0, .ref (fa g 239)), (1, .int (nI p0)), (2, .int (bI (tr = true)))]) hx hb dX8_told_48 hl (k := 4) rfl (nI_1 _) (by decide) rfl (fun ls hl => ?_)
          refine lv_goto (tgt := 5) hx hb dX8_told_51 (by decide) ?_
          have MA9 : MA g ct_5 (mkz (z1 0) (z1 1) (z1 2) (z1 3) (z1 4) (z1 5) (z1 6) (z1 7) (z1 8) (z1 9)) (mkF (F1 0) (F1 1) (F1 2) (F1 3) (F1 4) fw_6 (F1 6) (F1 7) (F1 8)) := ⟨m_12o, m_12r0, m_12r1, m_12r2, m_12r3, m_12r4, m_12r5, m_12r6, m_12r7, m_12r8⟩
          exact ih (i + 1) _ _ ls _ (by (try dsimp only); omega) ⟨lv_sub hl [2, 3, 4, 1, 0] rfl, ⟨_, _, MA9, ⟨by omega, hI.2⟩, (show fSame 239 249 _ _ from fSame.tr hsm (fSame.ap fSame.rf ew_7 (by omega) (by omega)))⟩⟩ hP hS
        · have c_38 := (fb_1 p_35.1).mp c_38
          refine lv_iconst (v := (nI 1)) hx hb dX8_told_41 (by decide) ?_
          refine lv_goto (tgt := 46) hx hb dX8_told_42 (by decide) ?_
          refine lv_iadd hx hb dX8_told_46 ?_
          refine fs_vi (y := (nI (cN (fun i => decide (rk σ i 0 = p0) && (!tr || hdr σ (lkf σ) i)) (i + 1)))) (by rw [cN_t (by rw [decide_eq_true c_25, c_29, c_38]; rfl)]; exact nI_1 _) ?_
          refine lv_istore_n (lv' := [(3, .int (nI (cN (fun i => decide (rk σ i 0 = p0) && (!tr || hdr σ (lkf σ) i)) (i + 1)))), (0, .ref (fa g 239)), (1, .int (nI p0)), (2, .int (bI (tr = true))), (4, .int (nI i))]) hx hb dX8_told_47 rfl hl (by decide) rfl (fun ls hl => ?_)
          refine lv_iinc (v := (nI (i + 1))) (lv' := [(4, .int (nI (i + 1))), (3, .int (nI (cN (fun i => decide (rk σ i 0 = p0) && (!tr || hdr σ (lkf σ) i)) (i + 1)))), (0, .ref (fa g 239)), (1, .int (nI p0)), (2, .int (bI (tr = true)))]) hx hb dX8_told_48 hl (k := 4) rfl (nI_1 _) (by decide) rfl (fun ls hl => ?_)
          refine lv_goto (tgt := 5) hx hb dX8_told_51 (by decide) ?_
          have MA9 : MA g ct_5 (mkz (z1 0) (z1 1) (z1 2) (z1 3) (z1 4) (z1 5) (z1 6) (z1 7) (z1 8) (z1 9)) (mkF (F1 0) (F1 1) (F1 2) (F1 3) (F1 4) fw_6 (F1 6) (F1 7) (F1 8)) := ⟨m_12o, m_12r0, m_12r1, m_12r2, m_12r3, m_12r4, m_12r5, m_12r6, m_12r7, m_12r8⟩
          exact ih (i + 1) _ _ ls _ (by (try dsimp only); omega) ⟨lv_sub hl [2, 3, 4, 1, 0] rfl, ⟨_, _, MA9, ⟨by omega, hI.2⟩, (show fSame 239 249 _ _ from fSame.tr hsm (fSame.ap fSame.rf ew_7 (by omega) (by omega)))⟩⟩ hP hS

set_option maxRecDepth 100000 in
set_option maxHeartbeats 4000000 in
theorem c_X8_certainPersons (l : Launch) (g : fG) (N : Nat) (ct : Nat → va_E) (z : Nat → Int32) (F : Nat → Nat → Int32) (σ : Nat → Int32) (hN : 249 ≤ N) (hG : Good σ) (hM : MA g ct z F) (hT : SR σ F) : Met l yX8_certainPersons (wsU yX8_certainPersons cX8_certainPersons 3 (some .int)) rX8_certainPersons (fPre g N ct [.ref (fa g 239)]) (fQi g N (fun r ct1 => r = nI (cN (fun p => decide (¬ crF σ p = -6)) (nB σ)) ∧ ∃ (z1 : Nat → Int32) (F1 : Nat → Nat → Int32), MA g ct1 z1 F1 ∧ KK z F z1 F1 ∧ fSame 239 249 ct ct1)) 0 0 (fB g) := by
  refine fs_start (own := RX8) (lv0 := [(0, .ref (fa g 239))]) (by decide) rfl (Nat.le_of_ble_eq_true rfl) rfl ?_
  intro p e s m args below meth c ls E hr hlk hnm hP hl hS
  have hx := E.1.1
  have hb := E.1.2.1
  have m_1o : ct 239 = .inr (8, [.ref (fa g 240), .ref (fa g 241), .int (z 0), .ref (fa g 242), .ref (fa g 243), .ref (fa g 244), .int (z 1), .ref (fa g 245), .int (z 2), .ref (fa g 246), .ref (fa g 247), .ref (fa g 248), .int (z 3), .int (z 4), .int (z 5), .int (z 6), .int (z 7), .int (z 8), .int (z 9)]) := (hM).1
  have m_1r0 : ct 240 = .inl (fcI g, 121, .inl (F 0)) := (hM).2.1
  have m_1r1 : ct 241 = .inl (fcI g, 726, .inl (F 1)) := (hM).2.2.1
  have m_1r2 : ct 242 = .inl (fcI g, 242, .inl (F 2)) := (hM).2.2.2.1
  have m_1r3 : ct 243 = .inl (fcI g, 2, .inl (F 3)) := (hM).2.2.2.2.1
  have m_1r4 : ct 244 = .inl (fcI g, 60, .inl (F 4)) := (hM).2.2.2.2.2.1
  have m_1r5 : ct 245 = .inl (fcI g, 6, .inl (F 5)) := (hM).2.2.2.2.2.2.1
  have m_1r6 : ct 246 = .inl (fcI g, 36, .inl (F 6)) := (hM).2.2.2.2.2.2.2.1
  have m_1r7 : ct 247 = .inl (fcI g, 20, .inl (F 7)) := (hM).2.2.2.2.2.2.2.2.1
  have m_1r8 : ct 248 = .inl (fcI g, 20, .inl (F 8)) := (hM).2.2.2.2.2.2.2.2.2
  have hn3 := hG.n3
  have hn6 := hG.n6
  have hk20 := hG.k
  refine lv_aload_n hx hb dX8_certainPersons_0 rfl (lv_at hl 0 rfl) ?_
  refine fs_v (va_runV (As := []) (rest := []) E.1 (c_X8_goThrough l g N ct z F σ (by omega) hG hM hT) (lk_RX8_102 E.1.2.2.2.2 ⟨Nat.le_of_ble_eq_true rfl, Nat.le_of_ble_eq_true rfl⟩) (fpreV E hP hS fc8 m_1o (by omega)) rfl rfl hl.1 rfl (lv_room (Nat.le_of_ble_eq_true rfl)) dX8_certainPersons_1 ⟨Nat.zero_le _, Nat.zero_le _⟩) hS (fun ct_2 H locs p_1 hP hS => ?_)
  obtain ⟨z_3, F_4, M_5, K_6, C_7, S_8⟩ := p_1
  have T_9 := KK.sr K_6 hT
  have m_10o : ct_2 239 = .inr (8, [.ref (fa g 240), .ref (fa g 241), .int (z_3 0), .ref (fa g 242), .ref (fa g 243), .ref (fa g 244), .int (z_3 1), .ref (fa g 245), .int (z_3 2), .ref (fa g 246), .ref (fa g 247), .ref (fa g 248), .int (z_3 3), .int (z_3 4), .int (z_3 5), .int (z_3 6), .int (z_3 7), .int (z_3 8), .int (z_3 9)]) := (M_5).1
  have m_10r0 : ct_2 240 = .inl (fcI g, 121, .inl (F_4 0)) := (M_5).2.1
  have m_10r1 : ct_2 241 = .inl (fcI g, 726, .inl (F_4 1)) := (M_5).2.2.1
  have m_10r2 : ct_2 242 = .inl (fcI g, 242, .inl (F_4 2)) := (M_5).2.2.2.1
  have m_10r3 : ct_2 243 = .inl (fcI g, 2, .inl (F_4 3)) := (M_5).2.2.2.2.1
  have m_10r4 : ct_2 244 = .inl (fcI g, 60, .inl (F_4 4)) := (M_5).2.2.2.2.2.1
  have m_10r5 : ct_2 245 = .inl (fcI g, 6, .inl (F_4 5)) := (M_5).2.2.2.2.2.2.1
  have m_10r6 : ct_2 246 = .inl (fcI g, 36, .inl (F_4 6)) := (M_5).2.2.2.2.2.2.2.1
  have m_10r7 : ct_2 247 = .inl (fcI g, 20, .inl (F_4 7)) := (M_5).2.2.2.2.2.2.2.2.1
  have m_10r8 : ct_2 248 = .inl (fcI g, 20, .inl (F_4 8)) := (M_5).2.2.2.2.2.2.2.2.2
  refine lv_iconst (v := (nI 0)) hx hb dX8_certainPersons_4 (by decide) ?_
  refine lv_istore_n (lv' := [(1, .int (nI 0)), (0, .ref (fa g 239))]) hx hb dX8_certainPersons_5 rfl hl (by decide) rfl (fun ls hl => ?_)
  refine lv_iconst (v := (nI 0)) hx hb dX8_certainPersons_6 (by decide) ?_
  refine lv_istore_n (lv' := [(2, .int (nI 0)), (1, .int (nI 0)), (0, .ref (fa g 239))]) hx hb dX8_certainPersons_7 rfl hl (by decide) rfl (fun ls hl => ?_)
  refine fs_indP (g := g) (St := Nat) (fun (i : Nat) (ls : Array Slot) => lv_has ls 3 [(0, .ref (fa g 239)), (1, .int (nI (cN (fun p => decide (¬ crF σ p = -6)) i))), (2, .int (nI i))] ∧ i ≤ nB σ) (fun (i : Nat) => nB σ - i) ?_ 0 ls _ ⟨lv_sub hl [2, 1, 0] rfl, Nat.zero_le _⟩ hS
  clear hl hS
  intro st ls locs hI hS ih
  obtain ⟨i, rfl⟩ : ∃ z, z = st := ⟨_, rfl⟩
  obtain ⟨hl, hI⟩ := hI
  have hI0 := hI
  refine lv_iload_n hx hb dX8_certainPersons_8 rfl (lv_at hl 2 rfl) ?_
  refine lv_aload_n hx hb dX8_certainPersons_9 rfl (lv_at hl 0 rfl) ?_
  refine fs_get E hP (k := 239) (v := .ref (fa g 240)) 0 fc8 m_10o (by omega) (by decide) (wm wl_5 (i := 0) rfl) rfl dX8_certainPersons_10 ?_
  refine lv_iconst (v := (nI 0)) hx hb dX8_certainPersons_13 (by decide) ?_
  refine fs_iald E hP (k := 240) m_10r0 (by omega) (vp_in_nI (by omega) (by omega)) dX8_certainPersons_14 ?_
  refine fs_vi (y := (F_4 0) 0) (congrArg (F_4 0) (nI_clamp (by omega))) ?_
  refine fs_vi (y := (nI (nB σ))) (T_9.n hG) ?_
  refine lv_icmp_ge (tgt := 42) hx hb dX8_certainPersons_15 (by decide) (fun c_15 => ?_) (fun c_15 => ?_)
  · rw [nI_leI (by omega) (by omega)] at c_15
    refine lv_iload_n hx hb dX8_certainPersons_42 rfl (lv_at hl 1 rfl) ?_
    refine fs_iret E hr hlk hP hS dX8_certainPersons_43 ?_
    exact ⟨by rw [show nB σ = i by omega], z_3, F_4, M_5, K_6, (show fSame 239 249 _ _ from (fSame.tr2 fSame.rf S_8 (by omega) (by omega)))⟩
  · rw [nI_leI (by omega) (by omega)] at c_15
    refine lv_iload_n hx hb dX8_certainPersons_18 rfl (lv_at hl 1 rfl) ?_
    refine lv_aload_n hx hb dX8_certainPersons_19 rfl (lv_at hl 0 rfl) ?_
    refine lv_iload_n hx hb dX8_certainPersons_20 rfl (lv_at hl 2 rfl) ?_
    refine fs_pi (va_runV (As := [.int (nI i)]) (rest := [.int (nI (cN (fun p => decide (¬ crF σ p = -6)) i))]) E.1 (c_X8_certainBox l g N ct_2 z_3 F_4 σ (by omega) hG M_5 T_9 C_7 i (by omega)) (lk_RX8_159 E.1.2.2.2.2 ⟨Nat.le_of_ble_eq_true rfl, Nat.le_of_ble_eq_true rfl⟩) (fpreV E hP hS fc8 m_10o (by omega)) rfl rfl hl.1 rfl (lv_room (Nat.le_of_ble_eq_true rfl)) dX8_certainPersons_21 ⟨Nat.zero_le _, Nat.zero_le _⟩) hS (fun r_21 locs p_21 hS => ?_)
    refine fs_vi (y := (crF σ i)) p_21 ?_
    refine lv_bipush (v := (-6)) hx hb dX8_certainPersons_24 (by decide) ?_
    refine lv_icmp_ne (tgt := 33) hx hb dX8_certainPersons_26 (by decide) (fun c_26 => ?_) (fun c_26 => ?_)
    · refine lv_iconst (v := (nI 1)) hx hb dX8_certainPersons_33 (by decide) ?_
      refine lv_iadd hx hb dX8_certainPersons_34 ?_
      refine fs_vi (y := (nI (cN (fun p => decide (¬ crF σ p = -6)) (i + 1)))) (by rw [cN_t (decide_eq_true c_26)]; exact nI_1 _) ?_
      refine lv_istore_n (lv' := [(1, .int (nI (cN (fun p => decide (¬ crF σ p = -6)) (i + 1)))), (0, .ref (fa g 239)), (2, .int (nI i))]) hx hb dX8_certainPersons_35 rfl hl (by decide) rfl (fun ls hl => ?_)
      refine lv_iinc (v := (nI (i + 1))) (lv' := [(2, .int (nI (i + 1))), (1, .int (nI (cN (fun p => decide (¬ crF σ p = -6)) (i + 1)))), (0, .ref (fa g 239))]) hx hb dX8_certainPersons_36 hl (k := 2) rfl (nI_1 _) (by decide) rfl (fun ls hl => ?_)
      refine lv_goto (tgt := 8) hx hb dX8_certainPersons_39 (by decide) ?_
      exact ih (i + 1) ls _ (by (try dsimp only); omega) ⟨lv_sub hl [2, 1, 0] rfl, by omega⟩ hS
    · refine lv_iconst (v := (nI 0)) hx hb dX8_certainPersons_29 (by decide) ?_
      refine lv_goto (tgt := 34) hx hb dX8_certainPersons_30 (by decide) ?_
      refine lv_iadd hx hb dX8_certainPersons_34 ?_
      refine fs_vi (y := (nI (cN (fun p => decide (¬ crF σ p = -6)) (i + 1)))) (by rw [cN_f (decide_eq_false (fun y => y c_26))]; exact nI_add _ 0) ?_
      refine lv_istore_n (lv' := [(1, .int (nI (cN (fun p => decide (¬ crF σ p = -6)) (i + 1)))), (0, .ref (fa g 239)), (2, .int (nI i))]) hx hb dX8_certainPersons_35 rfl hl (by decide) rfl (fun ls hl => ?_)
      refine lv_iinc (v := (nI (i + 1))) (lv' := [(2, .int (nI (i + 1))), (1, .int (nI (cN (fun p => decide (¬ crF σ p = -6)) (i + 1)))), (0, .ref (fa g 239))]) hx hb dX8_certainPersons_36 hl (k := 2) rfl (nI_1 _) (by decide) rfl (fun ls hl => ?_)
      refine lv_goto (tgt := 8) hx hb dX8_certainPersons_39 (by decide) ?_
      exact ih (i + 1) ls _ (by (try dsimp only); omega) ⟨lv_sub hl [2, 1, 0] rfl, by omega⟩ hS

set_option maxRecDepth 100000 in
set_option maxHeartbeats 4000000 in
theorem c_X8_certainRumours (l : Launch) (g : fG) (N : Nat) (ct : Nat → va_E) (z : Nat → Int32) (F : Nat → Nat → Int32) (σ : Nat → Int32) (hN : 249 ≤ N) (hG : Good σ) (hM : MA g ct z F) (hT : SR σ F) (op : Bool) : Met l yX8_certainRumours (wsU yX8_certainRumours cX8_certainRumours 4 (some .int)) rX8_certainRumours (fPre g N ct [.ref (fa g 239), .int (bI (op = true))]) (fQi g N (fun r ct1 => r = nI (cN (fun r => opn σ r && decide (0 < Wn σ ∧ HDn σ r = (if op = true then 0 else Wn σ))) (nT σ)) ∧ ∃ (z1 : Nat → Int32) (F1 : Nat → Nat → Int32), MA g ct1 z1 F1 ∧ KK z F z1 F1 ∧ fSame 239 249 ct ct1)) 0 0 (fB g) := by
  refine fs_start (own := RX8) (lv0 := [(0, .ref (fa g 239)), (1, .int (bI (op = true)))]) (by decide) rfl (Nat.le_of_ble_eq_true rfl) rfl ?_
  intro p e s m args below meth c ls E hr hlk hnm hP hl hS
  have hx := E.1.1
  have hb := E.1.2.1
  have m_1o : ct 239 = .inr (8, [.ref (fa g 240), .ref (fa g 241), .int (z 0), .ref (fa g 242), .ref (fa g 243), .ref (fa g 244), .int (z 1), .ref (fa g 245), .int (z 2), .ref (fa g 246), .ref (fa g 247), .ref (fa g 248), .int (z 3), .int (z 4), .int (z 5), .int (z 6), .int (z 7), .int (z 8), .int (z 9)]) := (hM).1
  have m_1r0 : ct 240 = .inl (fcI g, 121, .inl (F 0)) := (hM).2.1
  have m_1r1 : ct 241 = .inl (fcI g, 726, .inl (F 1)) := (hM).2.2.1
  have m_1r2 : ct 242 = .inl (fcI g, 242, .inl (F 2)) := (hM).2.2.2.1
  have m_1r3 : ct 243 = .inl (fcI g, 2, .inl (F 3)) := (hM).2.2.2.2.1
  have m_1r4 : ct 244 = .inl (fcI g, 60, .inl (F 4)) := (hM).2.2.2.2.2.1
  have m_1r5 : ct 245 = .inl (fcI g, 6, .inl (F 5)) := (hM).2.2.2.2.2.2.1
  have m_1r6 : ct 246 = .inl (fcI g, 36, .inl (F 6)) := (hM).2.2.2.2.2.2.2.1
  have m_1r7 : ct 247 = .inl (fcI g, 20, .inl (F 7)) := (hM).2.2.2.2.2.2.2.2.1
  have m_1r8 : ct 248 = .inl (fcI g, 20, .inl (F 8)) := (hM).2.2.2.2.2.2.2.2.2
  have hn3 := hG.n3
  have hn6 := hG.n6
  have hk20 := hG.k
  have hWl := Wn_le hG
  refine lv_aload_n hx hb dX8_certainRumours_0 rfl (lv_at hl 0 rfl) ?_
  refine fs_v (va_runV (As := []) (rest := []) E.1 (c_X8_goThrough l g N ct z F σ (by omega) hG hM hT) (lk_RX8_102 E.1.2.2.2.2 ⟨Nat.le_of_ble_eq_true rfl, Nat.le_of_ble_eq_true rfl⟩) (fpreV E hP hS fc8 m_1o (by omega)) rfl rfl hl.1 rfl (lv_room (Nat.le_of_ble_eq_true rfl)) dX8_certainRumours_1 ⟨Nat.zero_le _, Nat.zero_le _⟩) hS (fun ct_2 H locs p_1 hP hS => ?_)
  obtain ⟨z_3, F_4, M_5, K_6, C_7, S_8⟩ := p_1
  have T_9 := KK.sr K_6 hT
  have m_10o : ct_2 239 = .inr (8, [.ref (fa g 240), .ref (fa g 241), .int (z_3 0), .ref (fa g 242), .ref (fa g 243), .ref (fa g 244), .int (z_3 1), .ref (fa g 245), .int (z_3 2), .ref (fa g 246), .ref (fa g 247), .ref (fa g 248), .int (z_3 3), .int (z_3 4), .int (z_3 5), .int (z_3 6), .int (z_3 7), .int (z_3 8), .int (z_3 9)]) := (M_5).1
  have m_10r0 : ct_2 240 = .inl (fcI g, 121, .inl (F_4 0)) := (M_5).2.1
  have m_10r1 : ct_2 241 = .inl (fcI g, 726, .inl (F_4 1)) := (M_5).2.2.1
  have m_10r2 : ct_2 242 = .inl (fcI g, 242, .inl (F_4 2)) := (M_5).2.2.2.1
  have m_10r3 : ct_2 243 = .inl (fcI g, 2, .inl (F_4 3)) := (M_5).2.2.2.2.1
  have m_10r4 : ct_2 244 = .inl (fcI g, 60, .inl (F_4 4)) := (M_5).2.2.2.2.2.1
  have m_10r5 : ct_2 245 = .inl (fcI g, 6, .inl (F_4 5)) := (M_5).2.2.2.2.2.2.1
  have m_10r6 : ct_2 246 = .inl (fcI g, 36, .inl (F_4 6)) := (M_5).2.2.2.2.2.2.2.1
  have m_10r7 : ct_2 247 = .inl (fcI g, 20, .inl (F_4 7)) := (M_5).2.2.2.2.2.2.2.2.1
  have m_10r8 : ct_2 248 = .inl (fcI g, 20, .inl (F_4 8)) := (M_5).2.2.2.2.2.2.2.2.2
  refine lv_iconst (v := (nI 0)) hx hb dX8_certainRumours_4 (by decide) ?_
  refine lv_istore_n (lv' := [(2, .int (nI 0)), (0, .ref (fa g 239)), (1, .int (bI (op = true)))]) hx hb dX8_certainRumours_5 rfl hl (by decide) rfl (fun ls hl => ?_)
  refine lv_iconst (v := (nI 0)) hx hb dX8_certainRumours_6 (by decide) ?_
  refine lv_istore_n (lv' := [(3, .int (nI 0)), (2, .int (nI 0)), (0, .ref (fa g 239)), (1, .int (bI (op = true)))]) hx hb dX8_certainRumours_7 rfl hl (by decide) rfl (fun ls hl => ?_)
  refine fs_indP (g := g) (St := Nat) (fun (i : Nat) (ls : Array Slot) => lv_has ls 4 [(0, .ref (fa g 239)), (1, .int (bI (op = true))), (2, .int (nI (cN (fun r => opn σ r && decide (0 < Wn σ ∧ HDn σ r = (if op = true then 0 else Wn σ))) i))), (3, .int (nI i))] ∧ i ≤ nT σ) (fun (i : Nat) => nT σ - i) ?_ 0 ls _ ⟨lv_sub hl [2, 3, 1, 0] rfl, Nat.zero_le _⟩ hS
  clear hl hS
  intro st ls locs hI hS ih
  obtain ⟨i, rfl⟩ : ∃ z, z = st := ⟨_, rfl⟩
  obtain ⟨hl, hI⟩ := hI
  have hI0 := hI
  refine lv_iload_n hx hb dX8_certainRumours_8 rfl (lv_at hl 3 rfl) ?_
  refine lv_aload_n hx hb dX8_certainRumours_9 rfl (lv_at hl 0 rfl) ?_
  refine fs_get E hP (k := 239) (v := .ref (fa g 240)) 0 fc8 m_10o (by omega) (by decide) (wm wl_5 (i := 0) rfl) rfl dX8_certainRumours_10 ?_
  refine lv_iconst (v := (nI 1)) hx hb dX8_certainRumours_13 (by decide) ?_
  refine fs_iald E hP (k := 240) m_10r0 (by omega) (vp_in_nI (by omega) (by omega)) dX8_certainRumours_14 ?_
  refine fs_vi (y := (F_4 0) 1) (congrArg (F_4 0) (nI_clamp (by omega))) ?_
  refine fs_vi (y := (nI (nT σ))) (T_9.k hG) ?_
  refine lv_icmp_ge (tgt := 68) hx hb dX8_certainRumours_15 (by decide) (fun c_15 => ?_) (fun c_15 => ?_)
  · rw [nI_leI (by omega) (by omega)] at c_15
    refine lv_iload_n hx hb dX8_certainRumours_68 rfl (lv_at hl 2 rfl) ?_
    refine fs_iret E hr hlk hP hS dX8_certainRumours_69 ?_
    exact ⟨by rw [show nT σ = i by omega], z_3, F_4, M_5, K_6, (show fSame 239 249 _ _ from (fSame.tr2 fSame.rf S_8 (by omega) (by omega)))⟩
  · rw [nI_leI (by omega) (by omega)] at c_15
    refine lv_iload_n hx hb dX8_certainRumours_18 rfl (lv_at hl 2 rfl) ?_
    refine lv_aload_n hx hb dX8_certainRumours_19 rfl (lv_at hl 0 rfl) ?_
    refine lv_iload_n hx hb dX8_certainRumours_20 rfl (lv_at hl 3 rfl) ?_
    refine fs_pi (va_runV (As := [.int (nI i)]) (rest := [.int (nI (cN (fun r => opn σ r && decide (0 < Wn σ ∧ HDn σ r = (if op = true then 0 else Wn σ))) i))]) E.1 (c_X8_isOpen l g N ct_2 z_3 F_4 σ (by omega) hG M_5 T_9 i (by omega)) (lk_RX8_74 E.1.2.2.2.2 ⟨Nat.le_of_ble_eq_true rfl, Nat.le_of_ble_eq_true rfl⟩) (fpreV E hP hS fc8 m_10o (by omega)) rfl rfl hl.1 rfl (lv_room (Nat.le_of_ble_eq_true rfl)) dX8_certainRumours_21 ⟨Nat.zero_le _, Nat.zero_le _⟩) hS (fun r_21 locs p_21 hS => ?_)
    refine lv_if_eq (tgt := 59) hx hb dX8_certainRumours_24 (by decide) (fun c_24 => ?_) (fun c_24 => ?_)
    · have c_24 := (fb_0 p_21).mp c_24
      refine lv_iconst (v := (nI 0)) hx hb dX8_certainRumours_59 (by decide) ?_
      refine lv_iadd hx hb dX8_certainRumours_60 ?_
      refine fs_vi (y := (nI (cN (fun r => opn σ r && decide (0 < Wn σ ∧ HDn σ r = (if op = true then 0 else Wn σ))) (i + 1)))) (by rw [cN_f (by rw [show opn σ i = false from decide_eq_false c_24]; rfl)]; exact nI_add _ 0) ?_
      refine lv_istore_n (lv' := [(2, .int (nI (cN (fun r => opn σ r && decide (0 < Wn σ ∧ HDn σ r = (if op = true then 0 else Wn σ))) (i + 1)))), (0, .ref (fa g 239)), (1, .int (bI (op = true))), (3, .int (nI i))]) hx hb dX8_certainRumours_61 rfl hl (by decide) rfl (fun ls hl => ?_)
      refine lv_iinc (v := (nI (i + 1))) (lv' := [(3, .int (nI (i + 1))), (2, .int (nI (cN (fun r => opn σ r && decide (0 < Wn σ ∧ HDn σ r = (if op = true then 0 else Wn σ))) (i + 1)))), (0, .ref (fa g 239)), (1, .int (bI (op = true)))]) hx hb dX8_certainRumours_62 hl (k := 3) rfl (nI_1 _) (by decide) rfl (fun ls hl => ?_)
      refine lv_goto (tgt := 8) hx hb dX8_certainRumours_65 (by decide) ?_
      exact ih (i + 1) ls _ (by (try dsimp only); omega) ⟨lv_sub hl [2, 3, 1, 0] rfl, by omega⟩ hS
    · have c_24 := (fb_1 p_21).mp c_24
      refine lv_aload_n hx hb dX8_certainRumours_27 rfl (lv_at hl 0 rfl) ?_
      refine fs_get E hP (k := 239) (v := .int (z_3 2)) 8 fc8 m_10o (by omega) (by decide) (wm wl_21 (i := 7) rfl) rfl dX8_certainRumours_28 ?_
      refine fs_vi (y := nI (Wn σ)) C_7.1 ?_
      refine lv_if_le (tgt := 59) hx hb dX8_certainRumours_31 (by decide) (fun c_31 => ?_) (fun c_31 => ?_)
      · rw [fz_leN (by omega)] at c_31
        refine lv_iconst (v := (nI 0)) hx hb dX8_certainRumours_59 (by decide) ?_
        refine lv_iadd hx hb dX8_certainRumours_60 ?_
        refine fs_vi (y := (nI (cN (fun r => opn σ r && decide (0 < Wn σ ∧ HDn σ r = (if op = true then 0 else Wn σ))) (i + 1)))) (by rw [cN_f (by rw [decide_eq_false (fun y => by have := y.1; omega), Bool.and_false])]; exact nI_add _ 0) ?_
        refine lv_istore_n (lv' := [(2, .int (nI (cN (fun r => opn σ r && decide (0 < Wn σ ∧ HDn σ r = (if op = true then 0 else Wn σ))) (i + 1)))), (0, .ref (fa g 239)), (1, .int (bI (op = true))), (3, .int (nI i))]) hx hb dX8_certainRumours_61 rfl hl (by decide) rfl (fun ls hl => ?_)
        refine lv_iinc (v := (nI (i + 1))) (lv' := [(3, .int (nI (i + 1))), (2, .int (nI (cN (fun r => opn σ r && decide (0 < Wn σ ∧ HDn σ r = (if op = true then 0 else Wn σ))) (i + 1)))), (0, .ref (fa g 239)), (1, .int (bI (op = true)))]) hx hb dX8_certainRumours_62 hl (k := 3) rfl (nI_1 _) (by decide) rfl (fun ls hl => ?_)
        refine lv_goto (tgt := 8) hx hb dX8_certainRumours_65 (by decide) ?_
        exact ih (i + 1) ls _ (by (try dsimp only); omega) ⟨lv_sub hl [2, 3, 1, 0] rfl, by omega⟩ hS
      · rw [fz_leN (by omega)] at c_31
        refine lv_aload_n hx hb dX8_certainRumours_34 rfl (lv_at hl 0 rfl) ?_
        refine fs_get E hP (k := 239) (v := .ref (fa g 247)) 10 fc8 m_10o (by omega) (by decide) (wm wl_5 (i := 7) rfl) rfl dX8_certainRumours_35 ?_
        refine lv_iload_n hx hb dX8_certainRumours_38 rfl (lv_at hl 3 rfl) ?_
        refine fs_iald E hP (k := 247) m_10r7 (by omega) (vp_in_nI (by omega) (by omega)) dX8_certainRumours_39 ?_
        refine fs_vi (y := (F_4 7) i) (congrArg (F_4 7) (nI_clamp (by omega))) ?_
        refine fs_vi (y := (nI (HDn σ i))) (C_7.2.2.1 i (by omega)) ?_
        have hHl := HD_le2 hG i
        refine lv_iload_n hx hb dX8_certainRumours_40 rfl (lv_at hl 1 rfl) ?_
        refine lv_if_eq (tgt := 48) hx hb dX8_certainRumours_41 (by decide) (fun c_41 => ?_) (fun c_41 => ?_)
        · have c_41 := (fb_0 rfl).mp c_41
          refine lv_aload_n hx hb dX8_certainRumours_48 rfl (lv_at hl 0 rfl) ?_
          refine fs_get E hP (k := 239) (v := .int (z_3 2)) 8 fc8 m_10o (by omega) (by decide) (wm wl_21 (i := 7) rfl) rfl dX8_certainRumours_49 ?_
          refine fs_vi (y := nI (Wn σ)) C_7.1 ?_
          refine lv_icmp_ne (tgt := 59) hx hb dX8_certainRumours_52 (by decide) (fun c_52 => ?_) (fun c_52 => ?_)
          · rw [nI_eq (by omega) (by omega)] at c_52
            refine lv_iconst (v := (nI 0)) hx hb dX8_certainRumours_59 (by decide) ?_
            refine lv_iadd hx hb dX8_certainRumours_60 ?_
            refine fs_vi (y := (nI (cN (fun r => opn σ r && decide (0 < Wn σ ∧ HDn σ r = (if op = true then 0 else Wn σ))) (i + 1)))) (by rw [cN_f (by rw [if_neg c_41, decide_eq_false (fun y => c_52 y.2), Bool.and_false])]; exact nI_add _ 0) ?_
            refine lv_istore_n (lv' := [(2, .int (nI (cN (fun r => opn σ r && decide (0 < Wn σ ∧ HDn σ r = (if op = true then 0 else Wn σ))) (i + 1)))), (0, .ref (fa g 239)), (1, .int (bI (op = true))), (3, .int (nI i))]) hx hb dX8_certainRumours_61 rfl hl (by decide) rfl (fun ls hl => ?_)
            refine lv_iinc (v := (nI (i + 1))) (lv' := [(3, .int (nI (i + 1))), (2, .int (nI (cN (fun r => opn σ r && decide (0 < Wn σ ∧ HDn σ r = (if op = true then 0 else Wn σ))) (i + 1)))), (0, .ref (fa g 239)), (1, .int (bI (op = true)))]) hx hb dX8_certainRumours_62 hl (k := 3) rfl (nI_1 _) (by decide) rfl (fun ls hl => ?_)
            refine lv_goto (tgt := 8) hx hb dX8_certainRumours_65 (by decide) ?_
            exact ih (i + 1) ls _ (by (try dsimp only); omega) ⟨lv_sub hl [2, 3, 1, 0] rfl, by omega⟩ hS
          · rw [nI_eq (by omega) (by omega)] at c_52
            refine lv_iconst (v := (nI 1)) hx hb dX8_certainRumours_55 (by decide) ?_
            refine lv_goto (tgt := 60) hx hb dX8_certainRumours_56 (by decide) ?_
            refine lv_iadd hx hb dX8_certainRumours_60 ?_
            refine fs_vi (y := (nI (cN (fun r => opn σ r && decide (0 < Wn σ ∧ HDn σ r = (if op = true then 0 else Wn σ))) (i + 1)))) (by rw [cN_t (by rw [(show opn σ i = true from decide_eq_true c_24), if_neg c_41, decide_eq_true ⟨by omega, c_52⟩]; rfl)]; exact nI_1 _) ?_
            refine lv_istore_n (lv' := [(2, .int (nI (cN (fun r => opn σ r && decide (0 < Wn σ ∧ HDn σ r = (if op = true then 0 else Wn σ))) (i + 1)))), (0, .ref (fa g 239)), (1, .int (bI (op = true))), (3, .int (nI i))]) hx hb dX8_certainRumours_61 rfl hl (by decide) rfl (fun ls hl => ?_)
            refine lv_iinc (v := (nI (i + 1))) (lv' := [(3, .int (nI (i + 1))), (2, .int (nI (cN (fun r => opn σ r && decide (0 < Wn σ ∧ HDn σ r = (if op = true then 0 else Wn σ))) (i + 1)))), (0, .ref (fa g 239)), (1, .int (bI (op = true)))]) hx hb dX8_certainRumours_62 hl (k := 3) rfl (nI_1 _) (by decide) rfl (fun ls hl => ?_)
            refine lv_goto (tgt := 8) hx hb dX8_certainRumours_65 (by decide) ?_
            exact ih (i + 1) ls _ (by (try dsimp only); omega) ⟨lv_sub hl [2, 3, 1, 0] rfl, by omega⟩ hS
        · have c_41 := (fb_1 rfl).mp c_41
          refine lv_iconst (v := (nI 0)) hx hb dX8_certainRumours_44 (by decide) ?_
          refine lv_goto (tgt := 52) hx hb dX8_certainRumours_45 (by decide) ?_
          refine lv_icmp_ne (tgt := 59) hx hb dX8_certainRumours_52 (by decide) (fun c_52 => ?_) (fun c_52 => ?_)
          · rw [nI_eq (by omega) (by omega)] at c_52
            refine lv_iconst (v := (nI 0)) hx hb dX8_certainRumours_59 (by decide) ?_
            refine lv_iadd hx hb dX8_certainRumours_60 ?_
            refine fs_vi (y := (nI (cN (fun r => opn σ r && decide (0 < Wn σ ∧ HDn σ r = (if op = true then 0 else Wn σ))) (i + 1)))) (by rw [cN_f (by rw [if_pos c_41, decide_eq_false (fun y => c_52 y.2), Bool.and_false])]; exact nI_add _ 0) ?_
            refine lv_istore_n (lv' := [(2, .int (nI (cN (fun r => opn σ r && decide (0 < Wn σ ∧ HDn σ r = (if op = true then 0 else Wn σ))) (i + 1)))), (0, .ref (fa g 239)), (1, .int (bI (op = true))), (3, .int (nI i))]) hx hb dX8_certainRumours_61 rfl hl (by decide) rfl (fun ls hl => ?_)
            refine lv_iinc (v := (nI (i + 1))) (lv' := [(3, .int (nI (i + 1))), (2, .int (nI (cN (fun r => opn σ r && decide (0 < Wn σ ∧ HDn σ r = (if op = true then 0 else Wn σ))) (i + 1)))), (0, .ref (fa g 239)), (1, .int (bI (op = true)))]) hx hb dX8_certainRumours_62 hl (k := 3) rfl (nI_1 _) (by decide) rfl (fun ls hl => ?_)
            refine lv_goto (tgt := 8) hx hb dX8_certainRumours_65 (by decide) ?_
            exact ih (i + 1) ls _ (by (try dsimp only); omega) ⟨lv_sub hl [2, 3, 1, 0] rfl, by omega⟩ hS
          · rw [nI_eq (by omega) (by omega)] at c_52
            refine lv_iconst (v := (nI 1)) hx hb dX8_certainRumours_55 (by decide) ?_
            refine lv_goto (tgt := 60) hx hb dX8_certainRumours_56 (by decide) ?_
            refine lv_iadd hx hb dX8_certainRumours_60 ?_
            refine fs_vi (y := (nI (cN (fun r => opn σ r && decide (0 < Wn σ ∧ HDn σ r = (if op = true then 0 else Wn σ))) (i + 1)))) (by rw [cN_t (by rw [(show opn σ i = true from decide_eq_true c_24), if_pos c_41, decide_eq_true ⟨by omega, c_52⟩]; rfl)]; exact nI_1 _) ?_
            refine lv_istore_n (lv' := [(2, .int (nI (cN (fun r => opn σ r && decide (0 < Wn σ ∧ HDn σ r = (if op = true then 0 else Wn σ))) (i + 1)))), (0, .ref (fa g 239)), (1, .int (bI (op = true))), (3, .int (nI i))]) hx hb dX8_certainRumours_61 rfl hl (by decide) rfl (fun ls hl => ?_)
            refine lv_iinc (v := (nI (i + 1))) (lv' := [(3, .int (nI (i + 1))), (2, .int (nI (cN (fun r => opn σ r && decide (0 < Wn σ ∧ HDn σ r = (if op = true then 0 else Wn σ))) (i + 1)))), (0, .ref (fa g 239)), (1, .int (bI (op = true)))]) hx hb dX8_certainRumours_62 hl (k := 3) rfl (nI_1 _) (by decide) rfl (fun ls hl => ?_)
            refine lv_goto (tgt := 8) hx hb dX8_certainRumours_65 (by decide) ?_
            exact ih (i + 1) ls _ (by (try dsimp only); omega) ⟨lv_sub hl [2, 3, 1, 0] rfl, by omega⟩ hS
