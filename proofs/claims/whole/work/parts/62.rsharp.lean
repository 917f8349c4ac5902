def lsI (f : Nat → Nat) : Option Nat → Int32
  | none => nI 0
  | some b => nI (f b)
set_option maxRecDepth 100000 in
set_option maxHeartbeats 4000000 in
theorem c_X8_sharpest (l : Launch) (g : fG) (N : Nat) (ct : Nat → va_E) (σ : Nat → Int32) (k : Nat) (hs : Nat → Nat → Int32) (u1 : Bool) (s1 : Nat → Int32) (u2 : Bool) (s2 : Nat → Int32) (t : Nat → Nat) (len : Nat) (hN : 249 ≤ N) (hG : Good σ) (hR : RFAt g ct σ k hs u1 s1 u2 s2 t len) (x : Int32) : Met l yX8_sharpest (wsU yX8_sharpest cX8_sharpest 7 (some .int)) rX8_sharpest (fPre g N ct [.ref (fa g 239), .int x]) (fQi g N (fun r ct1 => r = (if x = 0 ∨ x = nI 1 then shR σ x else -2) ∧ RFAt g ct1 σ k hs u1 s1 u2 s2 t len ∧ fSame 239 249 ct ct1)) 0 0 (fB g) := by
  refine fs_start (own := RX8) (lv0 := [(0, .ref (fa g 239)), (1, .int x)]) (by decide) rfl (Nat.le_of_ble_eq_true rfl) rfl ?_
  intro p e s m args below meth c ls E hr hlk hnm hP hl hS
  have hx := E.1.1
  have hb := E.1.2.1
  obtain ⟨z, F, hM, hT, hH, hS9, hQ⟩ := id hR
  have m_1o : ct 239 = .inr (8, [.ref (fa g 240), .ref (fa g 241), .int (z 0), .ref (fa g 242), .ref (fa g 243), .ref (fa g 244), .int (z 1), .ref (fa g 245), .int (z 2), .ref (fa g 246), .ref (fa g 247), .ref (fa g 248), .int (z 3), .int (z 4), .int (z 5), .int (z 6), .int (z 7), .int (z 8), .int (z 9)]) := (hM).1
  have m_1r0 : ct 240 = .inl (fcI g, 121, .inl (F 0)) := (hM).2.1
  have m_1r1 : ct 241 = .inl (fcI g, 726, .inl (F 1)) := (hM).2.2.1
  have m_1r2 : ct 242 = .inl (fcI g, 242, .inl (F 2)) := (hM).2.2.2.1
  have m_1r3 : ct 243 = .inl (fcI g, 2, .inl (F 3)) := (hM).2.2.2.2.1
  have m_1r4 : ct 244 = .inl (fcI g, 60, .inl (F 4)) := (hM).2.2.2.2.2.1
  have m_1r5 : ct 245 = .inl (fcI g, 6, .inl (F 5)) := (hM).2.2.2.2.2.2.1
  have m_1r6 : ct 246 = .inl (fcI g, 36, .inl (F 6)) := (hM).2.2.2.2.2.2.2.1
  have m_1r7 : ct 247 = .inl (fcI g, 20, .inl (F 7)) := (hM).2.2.2.2.2.2.2.2.1
  have m_1r8 : ct 248 = .inl (fcI g, 20, .inl (F 8)) := (hM).2.2.2.2.2.2.2.2.2
  have hn3 := hG.n3
  have hn6 := hG.n6
  have hk20 := hG.k
  have hWl := Wn_le hG
  refine lv_iload_n hx hb dX8_sharpest_0 rfl (lv_at hl 1 rfl) ?_
  refine lv_iconst (v := (nI 0)) hx hb dX8_sharpest_1 (by decide) ?_
  refine lv_iconst (v := (nI 1)) hx hb dX8_sharpest_2 (by decide) ?_
  refine fs_pi (va_runS (As := [.int x, .int (nI 0), .int (nI 1)]) (rest := []) E.1 (c_X8_within l g N ct x (nI 0) (nI 1)) (lk_RX8_49 E.1.2.2.2.2 ⟨Nat.le_of_ble_eq_true rfl, Nat.le_of_ble_eq_true rfl⟩) (fpreS E hP hS) rfl rfl hl.1 rfl (lv_room (Nat.le_of_ble_eq_true rfl)) dX8_sharpest_3 ⟨Nat.zero_le _, Nat.zero_le _⟩) hS (fun r_3 locs p_3 hS => ?_)
  refine lv_if_ne (tgt := 12) hx hb dX8_sharpest_6 (by decide) (fun c_6 => ?_) (fun c_6 => ?_)
  · have c_6 := (fb_1 p_3).mp c_6
    refine lv_aload_n hx hb dX8_sharpest_12 rfl (lv_at hl 0 rfl) ?_
    refine fs_v (va_runV (As := []) (rest := []) E.1 (c_X8_goThrough l g N ct z F σ (by omega) hG hM hT) (lk_RX8_102 E.1.2.2.2.2 ⟨Nat.le_of_ble_eq_true rfl, Nat.le_of_ble_eq_true rfl⟩) (fpreV E hP hS fc8 m_1o (by omega)) rfl rfl hl.1 rfl (lv_room (Nat.le_of_ble_eq_true rfl)) dX8_sharpest_13 ⟨Nat.zero_le _, Nat.zero_le _⟩) hS (fun ct_2 H locs p_13 hP hS => ?_)
    obtain ⟨z_3, F_4, M_5, K_6, C_7, S_8⟩ := p_13
    have T_9 := KK.sr K_6 hT
    have m_10o : ct_2 239 = .inr (8, [.ref (fa g 240), .ref (fa g 241), .int (z_3 0), .ref (fa g 242), .ref (fa g 243), .ref (fa g 244), .int (z_3 1), .ref (fa g 245), .int (z_3 2), .ref (fa g 246), .ref (fa g 247), .ref (fa g 248), .int (z_3 3), .int (z_3 4), .int (z_3 5), .int (z_3 6), .int (z_3 7), .int (z_3 8), .int (z_3 9)]) := (M_5).1
    have m_10r0 : ct_2 240 = .inl (fcI g, 121, .inl (F_4 0)) := (M_5).2.1
    have m_10r1 : ct_2 241 = .inl (fcI g, 726, .inl (F_4 1)) := (M_5).2.2.1
    have m_10r2 : ct_2 242 = .inl (fcI g, 242, .inl (F_4 2)) := (M_5).2.2.2.1
    have m_10r3 : ct_2 243 = .inl (fcI g, 2, .inl (F_4 3)) := (M_5).2.2.2.2.1
    have m_10r4 : ct_2 244 = .inl (fcI g, 60, .inl (F_4 4)) := (M_5).2.2.2.2.2.1
    have m_10r5 : ct_2 245 = .inl (fcI g, 6, .inl (F_4 5)) := (M_5).2.2.2.2.2.2.1
    have m_10r6 : ct_2 246 = .inl (fcI g, 36, .inl (F_4 6)) := (M_5).2.2.2.2.2.2.2.1
    have m_10r7 : ct_2 247 = .inl (fcI g, 20, .inl (F_4 7)) := (M_5).2.2.2.2.2.2.2.2.1
    have m_10r8 : ct_2 248 = .inl (fcI g, 20, .inl (F_4 8)) := (M_5).2.2.2.2.2.2.2.2.2
    refine lv_bipush (v := (-6)) hx hb dX8_sharpest_16 (by decide) ?_
    refine lv_istore_n (lv' := [(2, .int (-6)), (0, .ref (fa g 239)), (1, .int x)]) hx hb dX8_sharpest_18 rfl hl (by decide) rfl (fun ls hl => ?_)
    refine lv_iconst (v := (nI 0)) hx hb dX8_sharpest_19 (by decide) ?_
    refine lv_istore_n (lv' := [(3, .int (nI 0)), (2, .int (-6)), (0, .ref (fa g 239)), (1, .int x)]) hx hb dX8_sharpest_20 rfl hl (by decide) rfl (fun ls hl => ?_)
    refine lv_iconst (v := (nI 0)) hx hb dX8_sharpest_21 (by decide) ?_
    refine lv_istore (lv' := [(4, .int (nI 0)), (3, .int (nI 0)), (2, .int (-6)), (0, .ref (fa g 239)), (1, .int x)]) hx hb dX8_sharpest_22 hl (by decide) rfl (fun ls hl => ?_)
    refine fs_indP (g := g) (St := Nat) (fun (i : Nat) (ls : Array Slot) => lv_has ls 7 [(0, .ref (fa g 239)), (1, .int x), (2, .int (optI (bst (opn σ) (fun a b => decide (WOn σ a < WOn σ b)) i))), (3, .int (lsI (WOn σ) (bst (opn σ) (fun a b => decide (WOn σ a < WOn σ b)) i))), (4, .int (nI i))] ∧ i ≤ nT σ) (fun (i : Nat) => nT σ - i) ?_ 0 ls _ ⟨lv_sub hl [3, 4, 2, 1, 0] rfl, Nat.zero_le _⟩ hS
    clear hl hS
    intro st ls locs hI hS ih
    obtain ⟨i, rfl⟩ : ∃ z, z = st := ⟨_, rfl⟩
    obtain ⟨hl, hI⟩ := hI
    have hI0 := hI
    have hHl := HD_le2 hG i
    have hHW := HD_le σ i
    refine lv_iload hx hb dX8_sharpest_24 (lv_at hl 4 rfl) ?_
    refine lv_aload_n hx hb dX8_sharpest_26 rfl (lv_at hl 0 rfl) ?_
    refine fs_get E hP (k := 239) (v := .ref (fa g 240)) 0 fc8 m_10o (by omega) (by decide) (wm wl_5 (i := 0) rfl) rfl dX8_sharpest_27 ?_
    refine lv_iconst (v := (nI 1)) hx hb dX8_sharpest_30 (by decide) ?_
    refine fs_iald E hP (k := 240) m_10r0 (by omega) (vp_in_nI (by omega) (by omega)) dX8_sharpest_31 ?_
    refine fs_vi (y := (F_4 0) 1) (congrArg (F_4 0) (nI_clamp (by omega))) ?_
    refine fs_vi (y := (nI (nT σ))) (T_9.k hG) ?_
    refine lv_icmp_ge (tgt := 139) hx hb dX8_sharpest_32 (by decide) (fun c_32 => ?_) (fun c_32 => ?_)
    · rw [nI_leI (by omega) (by omega)] at c_32
      have hin : i = nT σ := by omega
      rcases hbs139 : (bst (opn σ) (fun a b => decide (WOn σ a < WOn σ b)) i) with _ | b1
      · have e2 : optI (bst (opn σ) (fun a b => decide (WOn σ a < WOn σ b)) i) = -6 := by rw [hbs139]; rfl
        have e3 : lsI (WOn σ) (bst (opn σ) (fun a b => decide (WOn σ a < WOn σ b)) i) = nI 0 := by rw [hbs139]; rfl
        rw [e2, e3] at hl
        have hsf : shF σ = none := by rw [← hbs139, hin]; rfl
        refine lv_iload_n hx hb dX8_sharpest_139 rfl (lv_at hl 2 rfl) ?_
        refine lv_bipush (v := (-6)) hx hb dX8_sharpest_140 (by decide) ?_
        refine lv_icmp_eq (tgt := 149) hx hb dX8_sharpest_142 (by decide) (fun c_142 => ?_) (fun c_142 => ?_)
        rotate_left
        · exact absurd c_142 (by decide)
        refine lv_iload_n hx hb dX8_sharpest_149 rfl (lv_at hl 2 rfl) ?_
        refine lv_goto (tgt := 154) hx hb dX8_sharpest_150 (by decide) ?_
        refine fs_iret E hr hlk hP hS dX8_sharpest_154 ?_
        refine ⟨?_, RFAt.kk hT hH hS9 hQ M_5 K_6, (show fSame 239 249 _ _ from (fSame.tr2 fSame.rf S_8 (by omega) (by omega)))⟩
        rw [if_pos (w01.mp c_6), shR_n hsf]
      · have e2 : optI (bst (opn σ) (fun a b => decide (WOn σ a < WOn σ b)) i) = nI b1 := by rw [hbs139]; rfl
        have e3 : lsI (WOn σ) (bst (opn σ) (fun a b => decide (WOn σ a < WOn σ b)) i) = nI (WOn σ b1) := by rw [hbs139]; rfl
        rw [e2, e3] at hl
        have hb1 := (bst_lt hbs139).1
        have hwb : WOn σ b1 ≤ 15625 := by have := HD_le σ b1; unfold WOn; omega
        have hsf : shF σ = some b1 := by rw [← hbs139, hin]; rfl
        refine lv_iload_n hx hb dX8_sharpest_139 rfl (lv_at hl 2 rfl) ?_
        refine lv_bipush (v := (-6)) hx hb dX8_sharpest_140 (by decide) ?_
        refine lv_icmp_eq (tgt := 149) hx hb dX8_sharpest_142 (by decide) (fun c_142 => ?_) (fun c_142 => ?_)
        · exact absurd c_142 (nI_ne6 (by omega))
        · refine lv_iload_n hx hb dX8_sharpest_145 rfl (lv_at hl 1 rfl) ?_
          refine lv_if_ne (tgt := 153) hx hb dX8_sharpest_146 (by decide) (fun c_146 => ?_) (fun c_146 => ?_)
          · refine lv_iload_n hx hb dX8_sharpest_153 rfl (lv_at hl 3 rfl) ?_
            refine fs_iret E hr hlk hP hS dX8_sharpest_154 ?_
            refine ⟨?_, RFAt.kk hT hH hS9 hQ M_5 K_6, (show fSame 239 249 _ _ from (fSame.tr2 fSame.rf S_8 (by omega) (by omega)))⟩
            rw [if_pos (w01.mp c_6), shR_1 hsf c_146]
          · refine lv_iload_n hx hb dX8_sharpest_149 rfl (lv_at hl 2 rfl) ?_
            refine lv_goto (tgt := 154) hx hb dX8_sharpest_150 (by decide) ?_
            refine fs_iret E hr hlk hP hS dX8_sharpest_154 ?_
            refine ⟨?_, RFAt.kk hT hH hS9 hQ M_5 K_6, (show fSame 239 249 _ _ from (fSame.tr2 fSame.rf S_8 (by omega) (by omega)))⟩
            rw [if_pos (w01.mp c_6), shR_0 hsf c_146]
    · rw [nI_leI (by omega) (by omega)] at c_32
      rcases hbs35 : (bst (opn σ) (fun a b => decide (WOn σ a < WOn σ b)) i) with _ | b1
      · have e2 : optI (bst (opn σ) (fun a b => decide (WOn σ a < WOn σ b)) i) = -6 := by rw [hbs35]; rfl
        have e3 : lsI (WOn σ) (bst (opn σ) (fun a b => decide (WOn σ a < WOn σ b)) i) = nI 0 := by rw [hbs35]; rfl
        rw [e2, e3] at hl
        refine lv_aload_n hx hb dX8_sharpest_35 rfl (lv_at hl 0 rfl) ?_
        refine fs_get E hP (k := 239) (v := .ref (fa g 247)) 10 fc8 m_10o (by omega) (by decide) (wm wl_5 (i := 7) rfl) rfl dX8_sharpest_36 ?_
        refine lv_iload hx hb dX8_sharpest_39 (lv_at hl 4 rfl) ?_
        refine fs_iald E hP (k := 247) m_10r7 (by omega) (vp_in_nI (by omega) (by omega)) dX8_sharpest_41 ?_
        refine fs_vi (y := (F_4 7) i) (congrArg (F_4 7) (nI_clamp (by omega))) ?_
        refine fs_vi (y := (nI (HDn σ i))) (C_7.2.2.1 i (by omega)) ?_
        refine lv_aload_n hx hb dX8_sharpest_42 rfl (lv_at hl 0 rfl) ?_
        refine fs_get E hP (k := 239) (v := .int (z_3 2)) 8 fc8 m_10o (by omega) (by decide) (wm wl_21 (i := 7) rfl) rfl dX8_sharpest_43 ?_
        refine fs_vi (y := nI (Wn σ)) C_7.1 ?_
        refine lv_aload_n hx hb dX8_sharpest_46 rfl (lv_at hl 0 rfl) ?_
        refine fs_get E hP (k := 239) (v := .ref (fa g 247)) 10 fc8 m_10o (by omega) (by decide) (wm wl_5 (i := 7) rfl) rfl dX8_sharpest_47 ?_
        refine lv_iload hx hb dX8_sharpest_50 (lv_at hl 4 rfl) ?_
        refine fs_iald E hP (k := 247) m_10r7 (by omega) (vp_in_nI (by omega) (by omega)) dX8_sharpest_52 ?_
        refine fs_vi (y := (F_4 7) i) (congrArg (F_4 7) (nI_clamp (by omega))) ?_
        refine fs_vi (y := (nI (HDn σ i))) (C_7.2.2.1 i (by omega)) ?_
        refine lv_isub hx hb dX8_sharpest_53 ?_
        refine fs_vi (y := (nI (Wn σ - HDn σ i))) (pk_sub (HD_le σ i)) ?_
        refine lv_icmp_le (tgt := 67) hx hb dX8_sharpest_54 (by decide) (fun c_54 => ?_) (fun c_54 => ?_)
        · rw [nI_leI (by omega) (by omega)] at c_54
          refine lv_aload_n hx hb dX8_sharpest_67 rfl (lv_at hl 0 rfl) ?_
          refine fs_get E hP (k := 239) (v := .int (z_3 2)) 8 fc8 m_10o (by omega) (by decide) (wm wl_21 (i := 7) rfl) rfl dX8_sharpest_68 ?_
          refine fs_vi (y := nI (Wn σ)) C_7.1 ?_
          refine lv_aload_n hx hb dX8_sharpest_71 rfl (lv_at hl 0 rfl) ?_
          refine fs_get E hP (k := 239) (v := .ref (fa g 247)) 10 fc8 m_10o (by omega) (by decide) (wm wl_5 (i := 7) rfl) rfl dX8_sharpest_72 ?_
          refine lv_iload hx hb dX8_sharpest_75 (lv_at hl 4 rfl) ?_
          refine fs_iald E hP (k := 247) m_10r7 (by omega) (vp_in_nI (by omega) (by omega)) dX8_sharpest_77 ?_
          refine fs_vi (y := (F_4 7) i) (congrArg (F_4 7) (nI_clamp (by omega))) ?_
          refine fs_vi (y := (nI (HDn σ i))) (C_7.2.2.1 i (by omega)) ?_
          refine lv_isub hx hb dX8_sharpest_78 ?_
          refine fs_vi (y := (nI (Wn σ - HDn σ i))) (pk_sub (HD_le σ i)) ?_
          refine fs_vi (y := nI (WOn σ i)) (congrArg nI (by unfold WOn; omega)) ?_
          refine lv_istore (lv' := [(5, .int (nI (WOn σ i))), (0, .ref (fa g 239)), (1, .int x), (2, .int (-6)), (3, .int (nI 0)), (4, .int (nI i))]) hx hb dX8_sharpest_79 hl (by decide) rfl (fun ls hl => ?_)
          have hwi : WOn σ i ≤ 15625 := by unfold WOn; omega
          refine lv_aload_n hx hb dX8_sharpest_81 rfl (lv_at hl 1 rfl) ?_
          refine lv_iload hx hb dX8_sharpest_82 (lv_at hl 5 rfl) ?_
          refine fs_pi (va_runV (As := [.int (nI i)]) (rest := []) E.1 (c_X8_isOpen l g N ct_2 z_3 F_4 σ (by omega) hG M_5 T_9 i (by omega)) (lk_RX8_74 E.1.2.2.2.2 ⟨Nat.le_of_ble_eq_true rfl, Nat.le_of_ble_eq_true rfl⟩) (fpreV E hP hS fc8 m_10o (by omega)) rfl rfl hl.1 rfl (lv_room (Nat.le_of_ble_eq_true rfl)) dX8_sharpest_84 ⟨Nat.zero_le _, Nat.zero_le _⟩) hS (fun r_84 locs p_84 hS => ?_)
          refine lv_if_eq (tgt := 106) hx hb dX8_sharpest_87 (by decide) (fun c_87 => ?_) (fun c_87 => ?_)
          · have c_87 := (fb_0 p_84).mp c_87
            refine lv_iconst (v := (nI 0)) hx hb dX8_sharpest_106 (by decide) ?_
            refine lv_istore (lv' := [(6, .int (nI 0)), (5, .int (nI (WOn σ i))), (0, .ref (fa g 239)), (1, .int x), (2, .int (-6)), (3, .int (nI 0)), (4, .int (nI i))]) hx hb dX8_sharpest_107 hl (by decide) rfl (fun ls hl => ?_)
            have hnx : (bst (opn σ) (fun a b => decide (WOn σ a < WOn σ b)) (i + 1)) = none := (bst_no (decide_eq_false c_87)).trans hbs35
            refine lv_iload hx hb dX8_sharpest_109 (lv_at hl 0 rfl) ?_
            refine lv_if_eq (tgt := 119) hx hb dX8_sharpest_111 (by decide) (fun c_111 => ?_) (fun c_111 => ?_)
            rotate_left
            · exact absurd c_111 (by decide)
            refine lv_iload_n hx hb dX8_sharpest_119 rfl (lv_at hl 4 rfl) ?_
            refine fs_vi (y := optI (bst (opn σ) (fun a b => decide (WOn σ a < WOn σ b)) (i + 1))) (by rw [hnx]; rfl) ?_
            refine lv_istore_n (lv' := [(2, .int (optI (bst (opn σ) (fun a b => decide (WOn σ a < WOn σ b)) (i + 1)))), (6, .int (nI 0)), (5, .int (nI (WOn σ i))), (0, .ref (fa g 239)), (1, .int x), (3, .int (nI 0)), (4, .int (nI i))]) hx hb dX8_sharpest_120 rfl hl (by decide) rfl (fun ls hl => ?_)
            refine lv_iload hx hb dX8_sharpest_121 (lv_at hl 1 rfl) ?_
            refine lv_if_eq (tgt := 131) hx hb dX8_sharpest_123 (by decide) (fun c_123 => ?_) (fun c_123 => ?_)
            rotate_left
            · exact absurd c_123 (by decide)
            refine lv_iload_n hx hb dX8_sharpest_131 rfl (lv_at hl 5 rfl) ?_
            refine fs_vi (y := lsI (WOn σ) (bst (opn σ) (fun a b => decide (WOn σ a < WOn σ b)) (i + 1))) (by rw [hnx]; rfl) ?_
            refine lv_istore_n (lv' := [(3, .int (lsI (WOn σ) (bst (opn σ) (fun a b => decide (WOn σ a < WOn σ b)) (i + 1)))), (2, .int (optI (bst (opn σ) (fun a b => decide (WOn σ a < WOn σ b)) (i + 1)))), (6, .int (nI 0)), (5, .int (nI (WOn σ i))), (0, .ref (fa g 239)), (1, .int x), (4, .int (nI i))]) hx hb dX8_sharpest_132 rfl hl (by decide) rfl (fun ls hl => ?_)
            refine lv_iinc (v := (nI (i + 1))) (lv' := [(4, .int (nI (i + 1))), (3, .int (lsI (WOn σ) (bst (opn σ) (fun a b => decide (WOn σ a < WOn σ b)) (i + 1)))), (2, .int (optI (bst (opn σ) (fun a b => decide (WOn σ a < WOn σ b)) (i + 1)))), (6, .int (nI 0)), (5, .int (nI (WOn σ i))), (0, .ref (fa g 239)), (1, .int x)]) hx hb dX8_sharpest_133 hl (k := 6) rfl (nI_1 _) (by decide) rfl (fun ls hl => ?_)
            refine lv_goto (tgt := 24) hx hb dX8_sharpest_136 (by decide) ?_
            exact ih (i + 1) ls _ (by (try dsimp only); omega) ⟨lv_sub hl [5, 6, 2, 1, 0] rfl, by omega⟩ hS
          · have c_87 := (fb_1 p_84).mp c_87
            refine lv_iload_n hx hb dX8_sharpest_90 rfl (lv_at hl 3 rfl) ?_
            refine lv_bipush (v := (-6)) hx hb dX8_sharpest_91 (by decide) ?_
            refine lv_icmp_eq (tgt := 102) hx hb dX8_sharpest_93 (by decide) (fun c_93 => ?_) (fun c_93 => ?_)
            rotate_left
            · exact absurd c_93 (by decide)
            refine lv_iconst (v := (nI 1)) hx hb dX8_sharpest_102 (by decide) ?_
            refine lv_goto (tgt := 107) hx hb dX8_sharpest_103 (by decide) ?_
            refine lv_istore (lv' := [(6, .int (nI 1)), (5, .int (nI (WOn σ i))), (0, .ref (fa g 239)), (1, .int x), (2, .int (-6)), (3, .int (nI 0)), (4, .int (nI i))]) hx hb dX8_sharpest_107 hl (by decide) rfl (fun ls hl => ?_)
            have hnx : (bst (opn σ) (fun a b => decide (WOn σ a < WOn σ b)) (i + 1)) = some i := bst_new (decide_eq_true c_87) hbs35
            refine lv_iload hx hb dX8_sharpest_109 (lv_at hl 0 rfl) ?_
            refine lv_if_eq (tgt := 119) hx hb dX8_sharpest_111 (by decide) (fun c_111 => ?_) (fun c_111 => ?_)
            · exact absurd c_111 (by decide)
            refine lv_iload hx hb dX8_sharpest_114 (lv_at hl 6 rfl) ?_
            refine lv_goto (tgt := 120) hx hb dX8_sharpest_116 (by decide) ?_
            refine fs_vi (y := optI (bst (opn σ) (fun a b => decide (WOn σ a < WOn σ b)) (i + 1))) (by rw [hnx]; rfl) ?_
            refine lv_istore_n (lv' := [(2, .int (optI (bst (opn σ) (fun a b => decide (WOn σ a < WOn σ b)) (i + 1)))), (6, .int (nI 1)), (5, .int (nI (WOn σ i))), (0, .ref (fa g 239)), (1, .int x), (3, .int (nI 0)), (4, .int (nI i))]) hx hb dX8_sharpest_120 rfl hl (by decide) rfl (fun ls hl => ?_)
            refine lv_iload hx hb dX8_sharpest_121 (lv_at hl 1 rfl) ?_
            refine lv_if_eq (tgt := 131) hx hb dX8_sharpest_123 (by decide) (fun c_123 => ?_) (fun c_123 => ?_)
            · exact absurd c_123 (by decide)
            refine lv_iload hx hb dX8_sharpest_126 (lv_at hl 2 rfl) ?_
            refine lv_goto (tgt := 132) hx hb dX8_sharpest_128 (by decide) ?_
            refine fs_vi (y := lsI (WOn σ) (bst (opn σ) (fun a b => decide (WOn σ a < WOn σ b)) (i + 1))) (by rw [hnx]; rfl) ?_
            refine lv_istore_n (lv' := [(3, .int (lsI (WOn σ) (bst (opn σ) (fun a b => decide (WOn σ a < WOn σ b)) (i + 1)))), (2, .int (optI (bst (opn σ) (fun a b => decide (WOn σ a < WOn σ b)) (i + 1)))), (6, .int (nI 1)), (5, .int (nI (WOn σ i))), (0, .ref (fa g 239)), (1, .int x), (4, .int (nI i))]) hx hb dX8_sharpest_132 rfl hl (by decide) rfl (fun ls hl => ?_)
            refine lv_iinc (v := (nI (i + 1))) (lv' := [(4, .int (nI (i + 1))), (3, .int (lsI (WOn σ) (bst (opn σ) (fun a b => decide (WOn σ a < WOn σ b)) (i + 1)))), (2, .int (optI (bst (opn σ) (fun a b => decide (WOn σ a < WOn σ b)) (i + 1)))), (6, .int (nI 1)), (5, .int (nI (WOn σ i))), (0, .ref (fa g 239)), (1, .int x)]) hx hb dX8_sharpest_133 hl (k := 6) rfl (nI_1 _) (by decide) rfl (fun ls hl => ?_)
            refine lv_goto (tgt := 24) hx hb dX8_sharpest_136 (by decide) ?_
            exact ih (i + 1) ls _ (by (try dsimp only); omega) ⟨lv_sub hl [5, 6, 2, 1, 0] rfl, by omega⟩ hS
        · rw [nI_leI (by omega) (by omega)] at c_54
          refine lv_aload_n hx hb dX8_sharpest_57 rfl (lv_at hl 0 rfl) ?_
          refine fs_get E hP (k := 239) (v := .ref (fa g 247)) 10 fc8 m_10o (by omega) (by decide) (wm wl_5 (i := 7) rfl) rfl dX8_sharpest_58 ?_
          refine lv_iload hx hb dX8_sharpest_61 (lv_at hl 4 rfl) ?_
          refine fs_iald E hP (k := 247) m_10r7 (by omega) (vp_in_nI (by omega) (by omega)) dX8_sharpest_63 ?_
          refine fs_vi (y := (F_4 7) i) (congrArg (F_4 7) (nI_clamp (by omega))) ?_
          refine fs_vi (y := (nI (HDn σ i))) (C_7.2.2.1 i (by omega)) ?_
          refine lv_goto (tgt := 79) hx hb dX8_sharpest_64 (by decide) ?_
          refine fs_vi (y := nI (WOn σ i)) (congrArg nI (by unfold WOn; omega)) ?_
          refine lv_istore (lv' := [(5, .int (nI (WOn σ i))), (0, .ref (fa g 239)), (1, .int x), (2, .int (-6)), (3, .int (nI 0)), (4, .int (nI i))]) hx hb dX8_sharpest_79 hl (by decide) rfl (fun ls hl => ?_)
          have hwi : WOn σ i ≤ 15625 := by unfold WOn; omega
          refine lv_aload_n hx hb dX8_sharpest_81 rfl (lv_at hl 1 rfl) ?_
          refine lv_iload hx hb dX8_sharpest_82 (lv_at hl 5 rfl) ?_
          refine fs_pi (va_runV (As := [.int (nI i)]) (rest := []) E.1 (c_X8_isOpen l g N ct_2 z_3 F_4 σ (by omega) hG M_5 T_9 i (by omega)) (lk_RX8_74 E.1.2.2.2.2 ⟨Nat.le_of_ble_eq_true rfl, Nat.le_of_ble_eq_true rfl⟩) (fpreV E hP hS fc8 m_10o (by omega)) rfl rfl hl.1 rfl (lv_room (Nat.le_of_ble_eq_true rfl)) dX8_sharpest_84 ⟨Nat.zero_le _, Nat.zero_le _⟩) hS (fun r_84 locs p_84 hS => ?_)
          refine lv_if_eq (tgt := 106) hx hb dX8_sharpest_87 (by decide) (fun c_87 => ?_) (fun c_87 => ?_)
          · have c_87 := (fb_0 p_84).mp c_87
            refine lv_iconst (v := (nI 0)) hx hb dX8_sharpest_106 (by decide) ?_
            refine lv_istore (lv' := [(6, .int (nI 0)), (5, .int (nI (WOn σ i))), (0, .ref (fa g 239)), (1, .int x), (2, .int (-6)), (3, .int (nI 0)), (4, .int (nI i))]) hx hb dX8_sharpest_107 hl (by decide) rfl (fun ls hl => ?_)
            have hnx : (bst (opn σ) (fun a b => decide (WOn σ a < WOn σ b)) (i + 1)) = none := (bst_no (decide_eq_false c_87)).trans hbs35
            refine lv_iload hx hb dX8_sharpest_109 (lv_at hl 0 rfl) ?_
            refine lv_if_eq (tgt := 119) hx hb dX8_sharpest_111 (by decide) (fun c_111 => ?_) (fun c_111 => ?_)
            rotate_left
            · exact absurd c_111 (by decide)
            refine lv_iload_n hx hb dX8_sharpest_119 rfl (lv_at hl 4 rfl) ?_
            refine fs_vi (y := optI (bst (opn σ) (fun a b => decide (WOn σ a < WOn σ b)) (i + 1))) (by rw [hnx]; rfl) ?_
            refine lv_istore_n (lv' := [(2, .int (optI (bst (opn σ) (fun a b => decide (WOn σ a < WOn σ b)) (i + 1)))), (6, .int (nI 0)), (5, .int (nI (WOn σ i))), (0, .ref (fa g 239)), (1, .int x), (3, .int (nI 0)), (4, .int (nI i))]) hx hb dX8_sharpest_120 rfl hl (by decide) rfl (fun ls hl => ?_)
            refine lv_iload hx hb dX8_sharpest_121 (lv_at hl 1 rfl) ?_
            refine lv_if_eq (tgt := 131) hx hb dX8_sharpest_123 (by decide) (fun c_123 => ?_) (fun c_123 => ?_)
            rotate_left
            · exact absurd c_123 (by decide)
            refine lv_iload_n hx hb dX8_sharpest_131 rfl (lv_at hl 5 rfl) ?_
            refine fs_vi (y := lsI (WOn σ) (bst (opn σ) (fun a b => decide (WOn σ a < WOn σ b)) (i + 1))) (by rw [hnx]; rfl) ?_
            refine lv_istore_n (lv' := [(3, .int (lsI (WOn σ) (bst (opn σ) (fun a b => decide (WOn σ a < WOn σ b)) (i + 1)))), (2, .int (optI (bst (opn σ) (fun a b => decide (WOn σ a < WOn σ b)) (i + 1)))), (6, .int (nI 0)), (5, .int (nI (WOn σ i))), (0, .ref (fa g 239)), (1, .int x), (4, .int (nI i))]) hx hb dX8_sharpest_132 rfl hl (by decide) rfl (fun ls hl => ?_)
            refine lv_iinc (v := (nI (i + 1))) (lv' := [(4, .int (nI (i + 1))), (3, .int (lsI (WOn σ) (bst (opn σ) (fun a b => decide (WOn σ a < WOn σ b)) (i + 1)))), (2, .int (optI (bst (opn σ) (fun a b => decide (WOn σ a < WOn σ b)) (i + 1)))), (6, .int (nI 0)), (5, .int (nI (WOn σ i))), (0, .ref (fa g 239)), (1, .int x)]) hx hb dX8_sharpest_133 hl (k := 6) rfl (nI_1 _) (by decide) rfl (fun ls hl => ?_)
            refine lv_goto (tgt := 24) hx hb dX8_sharpest_136 (by decide) ?_
            exact ih (i + 1) ls _ (by (try dsimp only); omega) ⟨lv_sub hl [5, 6, 2, 1, 0] rfl, by omega⟩ hS
          · have c_87 := (fb_1 p_84).mp c_87
            refine lv_iload_n hx hb dX8_sharpest_90 rfl (lv_at hl 3 rfl) ?_
            refine lv_bipush (v := (-6)) hx hb dX8_sharpest_91 (by decide) ?_
            refine lv_icmp_eq (tgt := 102) hx hb dX8_sharpest_93 (by decide) (fun c_93 => ?_) (fun c_93 => ?_)
            rotate_left
            · exact absurd c_93 (by decide)
            refine lv_iconst (v := (nI 1)) hx hb dX8_sharpest_102 (by decide) ?_
            refine lv_goto (tgt := 107) hx hb dX8_sharpest_103 (by decide) ?_
            refine lv_istore (lv' := [(6, .int (nI 1)), (5, .int (nI (WOn σ i))), (0, .ref (fa g 239)), (1, .int x), (2, .int (-6)), (3, .int (nI 0)), (4, .int (nI i))]) hx hb dX8_sharpest_107 hl (by decide) rfl (fun ls hl => ?_)
            have hnx : (bst (opn σ) (fun a b => decide (WOn σ a < WOn σ b)) (i + 1)) = some i := bst_new (decide_eq_true c_87) hbs35
            refine lv_iload hx hb dX8_sharpest_109 (lv_at hl 0 rfl) ?_
            refine lv_if_eq (tgt := 119) hx hb dX8_sharpest_111 (by decide) (fun c_111 => ?_) (fun c_111 => ?_)
            · exact absurd c_111 (by decide)
            refine lv_iload hx hb dX8_sharpest_114 (lv_at hl 6 rfl) ?_
            refine lv_goto (tgt := 120) hx hb dX8_sharpest_116 (by decide) ?_
            refine fs_vi (y := optI (bst (opn σ) (fun a b => decide (WOn σ a < WOn σ b)) (i + 1))) (by rw [hnx]; rfl) ?_
            refine lv_istore_n (lv' := [(2, .int (optI (bst (opn σ) (fun a b => decide (WOn σ a < WOn σ b)) (i + 1)))), (6, .int (nI 1)), (5, .int (nI (WOn σ i))), (0, .ref (fa g 239)), (1, .int x), (3, .int (nI 0)), (4, .int (nI i))]) hx hb dX8_sharpest_120 rfl hl (by decide) rfl (fun ls hl => ?_)
            refine lv_iload hx hb dX8_sharpest_121 (lv_at hl 1 rfl) ?_
            refine lv_if_eq (tgt := 131) hx hb dX8_sharpest_123 (by decide) (fun c_123 => ?_) (fun c_123 => ?_)
            · exact absurd c_123 (by decide)
            refine lv_iload hx hb dX8_sharpest_126 (lv_at hl 2 rfl) ?_
            refine lv_goto (tgt := 132) hx hb dX8_sharpest_128 (by decide) ?_
            refine fs_vi (y := lsI (WOn σ) (bst (opn σ) (fun a b => decide (WOn σ a < WOn σ b)) (i + 1))) (by rw [hnx]; rfl) ?_
            refine lv_istore_n (lv' := [(3, .int (lsI (WOn σ) (bst (opn σ) (fun a b => decide (WOn σ a < WOn σ b)) (i + 1)))), (2, .int (optI (bst (opn σ) (fun a b => decide (WOn σ a < WOn σ b)) (i + 1)))), (6, .int (nI 1)), (5, .int (nI (WOn σ i))), (0, .ref (fa g 239)), (1, .int x), (4, .int (nI i))]) hx hb dX8_sharpest_132 rfl hl (by decide) rfl (fun ls hl => ?_)
            refine lv_iinc (v := (nI (i + 1))) (lv' := [(4, .int (nI (i + 1))), (3, .int (lsI (WOn σ) (bst (opn σ) (fun a b => decide (WOn σ a < WOn σ b)) (i + 1)))), (2, .int (optI (bst (opn σ) (fun a b => decide (WOn σ a < WOn σ b)) (i + 1)))), (6, .int (nI 1)), (5, .int (nI (WOn σ i))), (0, .ref (fa g 239)), (1, .int x)]) hx hb dX8_sharpest_133 hl (k := 6) rfl (nI_1 _) (by decide) rfl (fun ls hl => ?_)
            refine lv_goto (tgt := 24) hx hb dX8_sharpest_136 (by decide) ?_
            exact ih (i + 1) ls _ (by (try dsimp only); omega) ⟨lv_sub hl [5, 6, 2, 1, 0] rfl, by omega⟩ hS
      · have e2 : optI (bst (opn σ) (fun a b => decide (WOn σ a < WOn σ b)) i) = nI b1 := by rw [hbs35]; rfl
        have e3 : lsI (WOn σ) (bst (opn σ) (fun a b => decide (WOn σ a < WOn σ b)) i) = nI (WOn σ b1) := by rw [hbs35]; rfl
        rw [e2, e3] at hl
        have hb1 := (bst_lt hbs35).1
        have hwb : WOn σ b1 ≤ 15625 := by have := HD_le σ b1; unfold WOn; omega
        refine lv_aload_n hx hb dX8_sharpest_35 rfl (lv_at hl 0 rfl) ?_
        refine fs_get E hP (k := 239) (v := .ref (fa g 247)) 10 fc8 m_10o (by omega) (by decide) (wm wl_5 (i := 7) rfl) rfl dX8_sharpest_36 ?_
        refine lv_iload hx hb dX8_sharpest_39 (lv_at hl 4 rfl) ?_
        refine fs_iald E hP (k := 247) m_10r7 (by omega) (vp_in_nI (by omega) (by omega)) dX8_sharpest_41 ?_
        refine fs_vi (y := (F_4 7) i) (congrArg (F_4 7) (nI_clamp (by omega))) ?_
        refine fs_vi (y := (nI (HDn σ i))) (C_7.2.2.1 i (by omega)) ?_
        refine lv_aload_n hx hb dX8_sharpest_42 rfl (lv_at hl 0 rfl) ?_
        refine fs_get E hP (k := 239) (v := .int (z_3 2)) 8 fc8 m_10o (by omega) (by decide) (wm wl_21 (i := 7) rfl) rfl dX8_sharpest_43 ?_
        refine fs_vi (y := nI (Wn σ)) C_7.1 ?_
        refine lv_aload_n hx hb dX8_sharpest_46 rfl (lv_at hl 0 rfl) ?_
        refine fs_get E hP (k := 239) (v := .ref (fa g 247)) 10 fc8 m_10o (by omega) (by decide) (wm wl_5 (i := 7) rfl) rfl dX8_sharpest_47 ?_
        refine lv_iload hx hb dX8_sharpest_50 (lv_at hl 4 rfl) ?_
        refine fs_iald E hP (k := 247) m_10r7 (by omega) (vp_in_nI (by omega) (by omega)) dX8_sharpest_52 ?_
        refine fs_vi (y := (F_4 7) i) (congrArg (F_4 7) (nI_clamp (by omega))) ?_
        refine fs_vi (y := (nI (HDn σ i))) (C_7.2.2.1 i (by omega)) ?_
        refine lv_isub hx hb dX8_sharpest_53 ?_
        refine fs_vi (y := (nI (Wn σ - HDn σ i))) (pk_sub (HD_le σ i)) ?_
        refine lv_icmp_le (tgt := 67) hx hb dX8_sharpest_54 (by decide) (fun c_54 => ?_) (fun c_54 => ?_)
        · rw [nI_leI (by omega) (by omega)] at c_54
          refine lv_aload_n hx hb dX8_sharpest_67 rfl (lv_at hl 0 rfl) ?_
          refine fs_get E hP (k := 239) (v := .int (z_3 2)) 8 fc8 m_10o (by omega) (by decide) (wm wl_21 (i := 7) rfl) rfl dX8_sharpest_68 ?_
          refine fs_vi (y := nI (Wn σ)) C_7.1 ?_
          refine lv_aload_n hx hb dX8_sharpest_71 rfl (lv_at hl 0 rfl) ?_
          refine fs_get E hP (k := 239) (v := .ref (fa g 247)) 10 fc8 m_10o (by omega) (by decide) (wm wl_5 (i := 7) rfl) rfl dX8_sharpest_72 ?_
          refine lv_iload hx hb dX8_sharpest_75 (lv_at hl 4 rfl) ?_
          refine fs_iald E hP (k := 247) m_10r7 (by omega) (vp_in_nI (by omega) (by omega)) dX8_sharpest_77 ?_
          refine fs_vi (y := (F_4 7) i) (congrArg (F_4 7) (nI_clamp (by omega))) ?_
          refine fs_vi (y := (nI (HDn σ i))) (C_7.2.2.1 i (by omega)) ?_
          refine lv_isub hx hb dX8_sharpest_78 ?_
          refine fs_vi (y := (nI (Wn σ - HDn σ i))) (pk_sub (HD_le σ i)) ?_
          refine fs_vi (y := nI (WOn σ i)) (congrArg nI (by unfold WOn; omega)) ?_
          refine lv_istore (lv' := [(5, .int (nI (WOn σ i))), (0, .ref (fa g 239)), (1, .int x), (2, .int (nI b1)), (3, .int (nI (WOn σ b1))), (4, .int (nI i))]) hx hb dX8_sharpest_79 hl (by decide) rfl (fun ls hl => ?_)
          have hwi : WOn σ i ≤ 15625 := by unfold WOn; omega
          refine lv_aload_n hx hb dX8_sharpest_81 rfl (lv_at hl 1 rfl) ?_
          refine lv_iload hx hb dX8_sharpest_82 (lv_at hl 5 rfl) ?_
          refine fs_pi (va_runV (As := [.int (nI i)]) (rest := []) E.1 (c_X8_isOpen l g N ct_2 z_3 F_4 σ (by omega) hG M_5 T_9 i (by omega)) (lk_RX8_74 E.1.2.2.2.2 ⟨Nat.le_of_ble_eq_true rfl, Nat.le_of_ble_eq_true rfl⟩) (fpreV E hP hS fc8 m_10o (by omega)) rfl rfl hl.1 rfl (lv_room (Nat.le_of_ble_eq_true rfl)) dX8_sharpest_84 ⟨Nat.zero_le _, Nat.zero_le _⟩) hS (fun r_84 locs p_84 hS => ?_)
          refine lv_if_eq (tgt := 106) hx hb dX8_sharpest_87 (by decide) (fun c_87 => ?_) (fun c_87 => ?_)
          · have c_87 := (fb_0 p_84).mp c_87
            refine lv_iconst (v := (nI 0)) hx hb dX8_sharpest_106 (by decide) ?_
            refine lv_istore (lv' := [(6, .int (nI 0)), (5, .int (nI (WOn σ i))), (0, .ref (fa g 239)), (1, .int x), (2, .int (nI b1)), (3, .int (nI (WOn σ b1))), (4, .int (nI i))]) hx hb dX8_sharpest_107 hl (by decide) rfl (fun ls hl => ?_)
            have hnx : (bst (opn σ) (fun a b => decide (WOn σ a < WOn σ b)) (i + 1)) = some b1 := (bst_no (decide_eq_false c_87)).trans hbs35
            refine lv_iload hx hb dX8_sharpest_109 (lv_at hl 0 rfl) ?_
            refine lv_if_eq (tgt := 119) hx hb dX8_sharpest_111 (by decide) (fun c_111 => ?_) (fun c_111 => ?_)
            rotate_left
            · exact absurd c_111 (by decide)
            refine lv_iload_n hx hb dX8_sharpest_119 rfl (lv_at hl 4 rfl) ?_
            refine fs_vi (y := optI (bst (opn σ) (fun a b => decide (WOn σ a < WOn σ b)) (i + 1))) (by rw [hnx]; rfl) ?_
            refine lv_istore_n (lv' := [(2, .int (optI (bst (opn σ) (fun a b => decide (WOn σ a < WOn σ b)) (i + 1)))), (6, .int (nI 0)), (5, .int (nI (WOn σ i))), (0, .ref (fa g 239)), (1, .int x), (3, .int (nI (WOn σ b1))), (4, .int (nI i))]) hx hb dX8_sharpest_120 rfl hl (by decide) rfl (fun ls hl => ?_)
            refine lv_iload hx hb dX8_sharpest_121 (lv_at hl 1 rfl) ?_
            refine lv_if_eq (tgt := 131) hx hb dX8_sharpest_123 (by decide) (fun c_123 => ?_) (fun c_123 => ?_)
            rotate_left
            · exact absurd c_123 (by decide)
            refine lv_iload_n hx hb dX8_sharpest_131 rfl (lv_at hl 5 rfl) ?_
            refine fs_vi (y := lsI (WOn σ) (bst (opn σ) (fun a b => decide (WOn σ a < WOn σ b)) (i + 1))) (by rw [hnx]; rfl) ?_
            refine lv_istore_n (lv' := [(3, .int (lsI (WOn σ) (bst (opn σ) (fun a b => decide (WOn σ a < WOn σ b)) (i + 1)))), (2, .int (optI (bst (opn σ) (fun a b => decide (WOn σ a < WOn σ b)) (i + 1)))), (6, .int (nI 0)), (5, .int (nI (WOn σ i))), (0, .ref (fa g 239)), (1, .int x), (4, .int (nI i))]) hx hb dX8_sharpest_132 rfl hl (by decide) rfl (fun ls hl => ?_)
            refine lv_iinc (v := (nI (i + 1))) (lv' := [(4, .int (nI (i + 1))), (3, .int (lsI (WOn σ) (bst (opn σ) (fun a b => decide (WOn σ a < WOn σ b)) (i + 1)))), (2, .int (optI (bst (opn σ) (fun a b => decide (WOn σ a < WOn σ b)) (i + 1)))), (6, .int (nI 0)), (5, .int (nI (WOn σ i))), (0, .ref (fa g 239)), (1, .int x)]) hx hb dX8_sharpest_133 hl (k := 6) rfl (nI_1 _) (by decide) rfl (fun ls hl => ?_)
            refine lv_goto (tgt := 24) hx hb dX8_sharpest_136 (by decide) ?_
            exact ih (i + 1) ls _ (by (try dsimp only); omega) ⟨lv_sub hl [5, 6, 2, 1, 0] rfl, by omega⟩ hS
          · have c_87 := (fb_1 p_84).mp c_87
            refine lv_iload_n hx hb dX8_sharpest_90 rfl (lv_at hl 3 rfl) ?_
            refine lv_bipush (v := (-6)) hx hb dX8_sharpest_91 (by decide) ?_
            refine lv_icmp_eq (tgt := 102) hx hb dX8_sharpest_93 (by decide) (fun c_93 => ?_) (fun c_93 => ?_)
            · exact absurd c_93 (nI_ne6 (by omega))
            · refine lv_iload hx hb dX8_sharpest_96 (lv_at hl 0 rfl) ?_
              refine lv_iload_n hx hb dX8_sharpest_98 rfl (lv_at hl 4 rfl) ?_
              refine lv_icmp_ge (tgt := 106) hx hb dX8_sharpest_99 (by decide) (fun c_99 => ?_) (fun c_99 => ?_)
              · rw [nI_leI (by omega) (by omega)] at c_99
                refine lv_iconst (v := (nI 0)) hx hb dX8_sharpest_106 (by decide) ?_
                refine lv_istore (lv' := [(6, .int (nI 0)), (5, .int (nI (WOn σ i))), (0, .ref (fa g 239)), (1, .int x), (2, .int (nI b1)), (3, .int (nI (WOn σ b1))), (4, .int (nI i))]) hx hb dX8_sharpest_107 hl (by decide) rfl (fun ls hl => ?_)
                have hnx : (bst (opn σ) (fun a b => decide (WOn σ a < WOn σ b)) (i + 1)) = some b1 := bst_old (decide_eq_true c_87) hbs35 (decide_eq_false (by omega))
                refine lv_iload hx hb dX8_sharpest_109 (lv_at hl 0 rfl) ?_
                refine lv_if_eq (tgt := 119) hx hb dX8_sharpest_111 (by decide) (fun c_111 => ?_) (fun c_111 => ?_)
                rotate_left
                · exact absurd c_111 (by decide)
                refine lv_iload_n hx hb dX8_sharpest_119 rfl (lv_at hl 4 rfl) ?_
                refine fs_vi (y := optI (bst (opn σ) (fun a b => decide (WOn σ a < WOn σ b)) (i + 1))) (by rw [hnx]; rfl) ?_
                refine lv_istore_n (lv' := [(2, .int (optI (bst (opn σ) (fun a b => decide (WOn σ a < WOn σ b)) (i + 1)))), (6, .int (nI 0)), (5, .int (nI (WOn σ i))), (0, .ref (fa g 239)), (1, .int x), (3, .int (nI (WOn σ b1))), (4, .int (nI i))]) hx hb dX8_sharpest_120 rfl hl (by decide) rfl (fun ls hl => ?_)
                refine lv_iload hx hb dX8_sharpest_121 (lv_at hl 1 rfl) ?_
                refine lv_if_eq (tgt := 131) hx hb dX8_sharpest_123 (by decide) (fun c_123 => ?_) (fun c_123 => ?_)
                rotate_left
                · exact absurd c_123 (by decide)
                refine lv_iload_n hx hb dX8_sharpest_131 rfl (lv_at hl 5 rfl) ?_
                refine fs_vi (y := lsI (WOn σ) (bst (opn σ) (fun a b => decide (WOn σ a < WOn σ b)) (i + 1))) (by rw [hnx]; rfl) ?_
                refine lv_istore_n (lv' := [(3, .int (lsI (WOn σ) (bst (opn σ) (fun a b => decide (WOn σ a < WOn σ b)) (i + 1)))), (2, .int (optI (bst (opn σ) (fun a b => decide (WOn σ a < WOn σ b)) (i + 1)))), (6, .int (nI 0)), (5, .int (nI (WOn σ i))), (0, .ref (fa g 239)), (1, .int x), (4, .int (nI i))]) hx hb dX8_sharpest_132 rfl hl (by decide) rfl (fun ls hl => ?_)
                refine lv_iinc (v := (nI (i + 1))) (lv' := [(4, .int (nI (i + 1))), (3, .int (lsI (WOn σ) (bst (opn σ) (fun a b => decide (WOn σ a < WOn σ b)) (i + 1)))), (2, .int (optI (bst (opn σ) (fun a b => decide (WOn σ a < WOn σ b)) (i + 1)))), (6, .int (nI 0)), (5, .int (nI (WOn σ i))), (0, .ref (fa g 239)), (1, .int x)]) hx hb dX8_sharpest_133 hl (k := 6) rfl (nI_1 _) (by decide) rfl (fun ls hl => ?_)
                refine lv_goto (tgt := 24) hx hb dX8_sharpest_136 (by decide) ?_
                exact ih (i + 1) ls _ (by (try dsimp only); omega) ⟨lv_sub hl [5, 6, 2, 1, 0] rfl, by omega⟩ hS
              · rw [nI_leI (by omega) (by omega)] at c_99
                refine lv_iconst (v := (nI 1)) hx hb dX8_sharpest_102 (by decide) ?_
                refine lv_goto (tgt := 107) hx hb dX8_sharpest_103 (by decide) ?_
                refine lv_istore (lv' := [(6, .int (nI 1)), (5, .int (nI (WOn σ i))), (0, .ref (fa g 239)), (1, .int x), (2, .int (nI b1)), (3, .int (nI (WOn σ b1))), (4, .int (nI i))]) hx hb dX8_sharpest_107 hl (by decide) rfl (fun ls hl => ?_)
                have hnx : (bst (opn σ) (fun a b => decide (WOn σ a < WOn σ b)) (i + 1)) = some i := bst_yes (decide_eq_true c_87) hbs35 (decide_eq_true (by omega))
                refine lv_iload hx hb dX8_sharpest_109 (lv_at hl 0 rfl) ?_
                refine lv_if_eq (tgt := 119) hx hb dX8_sharpest_111 (by decide) (fun c_111 => ?_) (fun c_111 => ?_)
                · exact absurd c_111 (by decide)
                refine lv_iload hx hb dX8_sharpest_114 (lv_at hl 6 rfl) ?_
                refine lv_goto (tgt := 120) hx hb dX8_sharpest_116 (by decide) ?_
                refine fs_vi (y := optI (bst (opn σ) (fun a b => decide (WOn σ a < WOn σ b)) (i + 1))) (by rw [hnx]; rfl) ?_
                refine lv_istore_n (lv' := [(2, .int (optI (bst (opn σ) (fun a b => decide (WOn σ a < WOn σ b)) (i + 1)))), (6, .int (nI 1)), (5, .int (nI (WOn σ i))), (0, .ref (fa g 239)), (1, .int x), (3, .int (nI (WOn σ b1))), (4, .int (nI i))]) hx hb dX8_sharpest_120 rfl hl (by decide) rfl (fun ls hl => ?_)
                refine lv_iload hx hb dX8_sharpest_121 (lv_at hl 1 rfl) ?_
                refine lv_if_eq (tgt := 131) hx hb dX8_sharpest_123 (by decide) (fun c_123 => ?_) (fun c_123 => ?_)
                · exact absurd c_123 (by decide)
                refine lv_iload hx hb dX8_sharpest_126 (lv_at hl 2 rfl) ?_
                refine lv_goto (tgt := 132) hx hb dX8_sharpest_128 (by decide) ?_
                refine fs_vi (y := lsI (WOn σ) (bst (opn σ) (fun a b => decide (WOn σ a < WOn σ b)) (i + 1))) (by rw [hnx]; rfl) ?_
                refine lv_istore_n (lv' := [(3, .int (lsI (WOn σ) (bst (opn σ) (fun a b => decide (WOn σ a < WOn σ b)) (i + 1)))), (2, .int (optI (bst (opn σ) (fun a b => decide (WOn σ a < WOn σ b)) (i + 1)))), (6, .int (nI 1)), (5, .int (nI (WOn σ i))), (0, .ref (fa g 239)), (1, .int x), (4, .int (nI i))]) hx hb dX8_sharpest_132 rfl hl (by decide) rfl (fun ls hl => ?_)
                refine lv_iinc (v := (nI (i + 1))) (lv' := [(4, .int (nI (i + 1))), (3, .int (lsI (WOn σ) (bst (opn σ) (fun a b => decide (WOn σ a < WOn σ b)) (i + 1)))), (2, .int (optI (bst (opn σ) (fun a b => decide (WOn σ a < WOn σ b)) (i + 1)))), (6, .int (nI 1)), (5, .int (nI (WOn σ i))), (0, .ref (fa g 239)), (1, .int x)]) hx hb dX8_sharpest_133 hl (k := 6) rfl (nI_1 _) (by decide) rfl (fun ls hl => ?_)
                refine lv_goto (tgt := 24) hx hb dX8_sharpest_136 (by decide) ?_
                exact ih (i + 1) ls _ (by (try dsimp only); omega) ⟨lv_sub hl [5, 6, 2, 1, 0] rfl, by omega⟩ hS
        · rw [nI_leI (by omega) (by omega)] at c_54
          refine lv_aload_n hx hb dX8_sharpest_57 rfl (lv_at hl 0 rfl) ?_
          refine fs_get E hP (k := 239) (v := .ref (fa g 247)) 10 fc8 m_10o (by omega) (by decide) (wm wl_5 (i := 7) rfl) rfl dX8_sharpest_58 ?_
          refine lv_iload hx hb dX8_sharpest_61 (lv_at hl 4 rfl) ?_
          refine fs_iald E hP (k := 247) m_10r7 (by omega) (vp_in_nI (by omega) (by omega)) dX8_sharpest_63 ?_
          refine fs_vi (y := (F_4 7) i) (congrArg (F_4 7) (nI_clamp (by omega))) ?_
          refine fs_vi (y := (nI (HDn σ i))) (C_7.2.2.1 i (by omega)) ?_
          refine lv_goto (tgt := 79) hx hb dX8_sharpest_64 (by decide) ?_
          refine fs_vi (y := nI (WOn σ i)) (congrArg nI (by unfold WOn; omega)) ?_
          refine lv_istore (lv' := [(5, .int (nI (WOn σ i))), (0, .ref (fa g 239)), (1, .int x), (2, .int (nI b1)), (3, .int (nI (WOn σ b1))), (4, .int (nI i))]) hx hb dX8_sharpest_79 hl (by decide) rfl (fun ls hl => ?_)
          have hwi : WOn σ i ≤ 15625 := by unfold WOn; omega
          refine lv_aload_n hx hb dX8_sharpest_81 rfl (lv_at hl 1 rfl) ?_
          refine lv_iload hx hb dX8_sharpest_82 (lv_at hl 5 rfl) ?_
          refine fs_pi (va_runV (As := [.int (nI i)]) (rest := []) E.1 (c_X8_isOpen l g N ct_2 z_3 F_4 σ (by omega) hG M_5 T_9 i (by omega)) (lk_RX8_74 E.1.2.2.2.2 ⟨Nat.le_of_ble_eq_true rfl, Nat.le_of_ble_eq_true rfl⟩) (fpreV E hP hS fc8 m_10o (by omega)) rfl rfl hl.1 rfl (lv_room (Nat.le_of_ble_eq_true rfl)) dX8_sharpest_84 ⟨Nat.zero_le _, Nat.zero_le _⟩) hS (fun r_84 locs p_84 hS => ?_)
          refine lv_if_eq (tgt := 106) hx hb dX8_sharpest_87 (by decide) (fun c_87 => ?_) (fun c_87 => ?_)
          · have c_87 := (fb_0 p_84).mp c_87
            refine lv_iconst (v := (nI 0)) hx hb dX8_sharpest_106 (by decide) ?_
            refine lv_istore (lv' := [(6, .int (nI 0)), (5, .int (nI (WOn σ i))), (0, .ref (fa g 239)), (1, .int x), (2, .int (nI b1)), (3, .int (nI (WOn σ b1))), (4, .int (nI i))]) hx hb dX8_sharpest_107 hl (by decide) rfl (fun ls hl => ?_)
            have hnx : (bst (opn σ) (fun a b => decide (WOn σ a < WOn σ b)) (i + 1)) = some b1 := (bst_no (decide_eq_false c_87)).trans hbs35
            refine lv_iload hx hb dX8_sharpest_109 (lv_at hl 0 rfl) ?_
            refine lv_if_eq (tgt := 119) hx hb dX8_sharpest_111 (by decide) (fun c_111 => ?_) (fun c_111 => ?_)
            rotate_left
            · exact absurd c_111 (by decide)
            refine lv_iload_n hx hb dX8_sharpest_119 rfl (lv_at hl 4 rfl) ?_
            refine fs_vi (y := optI (bst (opn σ) (fun a b => decide (WOn σ a < WOn σ b)) (i + 1))) (by rw [hnx]; rfl) ?_
            refine lv_istore_n (lv' := [(2, .int (optI (bst (opn σ) (fun a b => decide (WOn σ a < WOn σ b)) (i + 1)))), (6, .int (nI 0)), (5, .int (nI (WOn σ i))), (0, .ref (fa g 239)), (1, .int x), (3, .int (nI (WOn σ b1))), (4, .int (nI i))]) hx hb dX8_sharpest_120 rfl hl (by decide) rfl (fun ls hl => ?_)
            refine lv_iload hx hb dX8_sharpest_121 (lv_at hl 1 rfl) ?_
            refine lv_if_eq (tgt := 131) hx hb dX8_sharpest_123 (by decide) (fun c_123 => ?_) (fun c_123 => ?_)
            rotate_left
            · exact absurd c_123 (by decide)
            refine lv_iload_n hx hb dX8_sharpest_131 rfl (lv_at hl 5 rfl) ?_
            refine fs_vi (y := lsI (WOn σ) (bst (opn σ) (fun a b => decide (WOn σ a < WOn σ b)) (i + 1))) (by rw [hnx]; rfl) ?_
            refine lv_istore_n (lv' := [(3, .int (lsI (WOn σ) (bst (opn σ) (fun a b => decide (WOn σ a < WOn σ b)) (i + 1)))), (2, .int (optI (bst (opn σ) (fun a b => decide (WOn σ a < WOn σ b)) (i + 1)))), (6, .int (nI 0)), (5, .int (nI (WOn σ i))), (0, .ref (fa g 239)), (1, .int x), (4, .int (nI i))]) hx hb dX8_sharpest_132 rfl hl (by decide) rfl (fun ls hl => ?_)
            refine lv_iinc (v := (nI (i + 1))) (lv' := [(4, .int (nI (i + 1))), (3, .int (lsI (WOn σ) (bst (opn σ) (fun a b => decide (WOn σ a < WOn σ b)) (i + 1)))), (2, .int (optI (bst (opn σ) (fun a b => decide (WOn σ a < WOn σ b)) (i + 1)))), (6, .int (nI 0)), (5, .int (nI (WOn σ i))), (0, .ref (fa g 239)), (1, .int x)]) hx hb dX8_sharpest_133 hl (k := 6) rfl (nI_1 _) (by decide) rfl (fun ls hl => ?_)
            refine lv_goto (tgt := 24) hx hb dX8_sharpest_136 (by decide) ?_
            exact ih (i + 1) ls _ (by (try dsimp only); omega) ⟨lv_sub hl [5, 6, 2, 1, 0] rfl, by omega⟩ hS
          · have c_87 := (fb_1 p_84).mp c_87
            refine lv_iload_n hx hb dX8_sharpest_90 rfl (lv_at hl 3 rfl) ?_
            refine lv_bipush (v := (-6)) hx hb dX8_sharpest_91 (by decide) ?_
            refine lv_icmp_eq (tgt := 102) hx hb dX8_sharpest_93 (by decide) (fun c_93 => ?_) (fun c_93 => ?_)
            · exact absurd c_93 (nI_ne6 (by omega))
            · refine lv_iload hx hb dX8_sharpest_96 (lv_at hl 0 rfl) ?_
              refine lv_iload_n hx hb dX8_sharpest_98 rfl (lv_at hl 4 rfl) ?_
              refine lv_icmp_ge (tgt := 106) hx hb dX8_sharpest_99 (by decide) (fun c_99 => ?_) (fun c_99 => ?_)
              · rw [nI_leI (by omega) (by omega)] at c_99
                refine lv_iconst (v := (nI 0)) hx hb dX8_sharpest_106 (by decide) ?_
                refine lv_istore (lv' := [(6, .int (nI 0)), (5, .int (nI (WOn σ i))), (0, .ref (fa g 239)), (1, .int x), (2, .int (nI b1)), (3, .int (nI (WOn σ b1))), (4, .int (nI i))]) hx hb dX8_sharpest_107 hl (by decide) rfl (fun ls hl => ?_)
                have hnx : (bst (opn σ) (fun a b => decide (WOn σ a < WOn σ b)) (i + 1)) = some b1 := bst_old (decide_eq_true c_87) hbs35 (decide_eq_false (by omega))
                refine lv_iload hx hb dX8_sharpest_109 (lv_at hl 0 rfl) ?_
                refine lv_if_eq (tgt := 119) hx hb dX8_sharpest_111 (by decide) (fun c_111 => ?_) (fun c_111 => ?_)
                rotate_left
                · exact absurd c_111 (by decide)
                refine lv_iload_n hx hb dX8_sharpest_119 rfl (lv_at hl 4 rfl) ?_
                refine fs_vi (y := optI (bst (opn σ) (fun a b => decide (WOn σ a < WOn σ b)) (i + 1))) (by rw [hnx]; rfl) ?_
                refine lv_istore_n (lv' := [(2, .int (optI (bst (opn σ) (fun a b => decide (WOn σ a < WOn σ b)) (i + 1)))), (6, .int (nI 0)), (5, .int (nI (WOn σ i))), (0, .ref (fa g 239)), (1, .int x), (3, .int (nI (WOn σ b1))), (4, .int (nI i))]) hx hb dX8_sharpest_120 rfl hl (by decide) rfl (fun ls hl => ?_)
                refine lv_iload hx hb dX8_sharpest_121 (lv_at hl 1 rfl) ?_
                refine lv_if_eq (tgt := 131) hx hb dX8_sharpest_123 (by decide) (fun c_123 => ?_) (fun c_123 => ?_)
                rotate_left
                · exact absurd c_123 (by decide)
                refine lv_iload_n hx hb dX8_sharpest_131 rfl (lv_at hl 5 rfl) ?_
                refine fs_vi (y := lsI (WOn σ) (bst (opn σ) (fun a b => decide (WOn σ a < WOn σ b)) (i + 1))) (by rw [hnx]; rfl) ?_
                refine lv_istore_n (lv' := [(3, .int (lsI (WOn σ) (bst (opn σ) (fun a b => decide (WOn σ a < WOn σ b)) (i + 1)))), (2, .int (optI (bst (opn σ) (fun a b => decide (WOn σ a < WOn σ b)) (i + 1)))), (6, .int (nI 0)), (5, .int (nI (WOn σ i))), (0, .ref (fa g 239)), (1, .int x), (4, .int (nI i))]) hx hb dX8_sharpest_132 rfl hl (by decide) rfl (fun ls hl => ?_)
                refine lv_iinc (v := (nI (i + 1))) (lv' := [(4, .int (nI (i + 1))), (3, .int (lsI (WOn σ) (bst (opn σ) (fun a b => decide (WOn σ a < WOn σ b)) (i + 1)))), (2, .int (optI (bst (opn σ) (fun a b => decide (WOn σ a < WOn σ b)) (i + 1)))), (6, .int (nI 0)), (5, .int (nI (WOn σ i))), (0, .ref (fa g 239)), (1, .int x)]) hx hb dX8_sharpest_133 hl (k := 6) rfl (nI_1 _) (by decide) rfl (fun ls hl => ?_)
                refine lv_goto (tgt := 24) hx hb dX8_sharpest_136 (by decide) ?_
                exact ih (i + 1) ls _ (by (try dsimp only); omega) ⟨lv_sub hl [5, 6, 2, 1, 0] rfl, by omega⟩ hS
              · rw [nI_leI (by omega) (by omega)] at c_99
                refine lv_iconst (v := (nI 1)) hx hb dX8_sharpest_102 (by decide) ?_
                refine lv_goto (tgt := 107) hx hb dX8_sharpest_103 (by decide) ?_
                refine lv_istore (lv' := [(6, .int (nI 1)), (5, .int (nI (WOn σ i))), (0, .ref (fa g 239)), (1, .int x), (2, .int (nI b1)), (3, .int (nI (WOn σ b1))), (4, .int (nI i))]) hx hb dX8_sharpest_107 hl (by decide) rfl (fun ls hl => ?_)
                have hnx : (bst (opn σ) (fun a b => decide (WOn σ a < WOn σ b)) (i + 1)) = some i := bst_yes (decide_eq_true c_87) hbs35 (decide_eq_true (by omega))
                refine lv_iload hx hb dX8_sharpest_109 (lv_at hl 0 rfl) ?_
                refine lv_if_eq (tgt := 119) hx hb dX8_sharpest_111 (by decide) (fun c_111 => ?_) (fun c_111 => ?_)
                · exact absurd c_111 (by decide)
                refine lv_iload hx hb dX8_sharpest_114 (lv_at hl 6 rfl) ?_
                refine lv_goto (tgt := 120) hx hb dX8_sharpest_116 (by decide) ?_
                refine fs_vi (y := optI (bst (opn σ) (fun a b => decide (WOn σ a < WOn σ b)) (i + 1))) (by rw [hnx]; rfl) ?_
                refine lv_istore_n (lv' := [(2, .int (optI (bst (opn σ) (fun a b => decide (WOn σ a < WOn σ b)) (i + 1)))), (6, .int (nI 1)), (5, .int (nI (WOn σ i))), (0, .ref (fa g 239)), (1, .int x), (3, .int (nI (WOn σ b1))), (4, .int (nI i))]) hx hb dX8_sharpest_120 rfl hl (by decide) rfl (fun ls hl => ?_)
                refine lv_iload hx hb dX8_sharpest_121 (lv_at hl 1 rfl) ?_
                refine lv_if_eq (tgt := 131) hx hb dX8_sharpest_123 (by decide) (fun c_123 => ?_) (fun c_123 => ?_)
                · exact absurd c_123 (by decide)
                refine lv_iload hx hb dX8_sharpest_126 (lv_at hl 2 rfl) ?_
                refine lv_goto (tgt := 132) hx hb dX8_sharpest_128 (by decide) ?_
                refine fs_vi (y := lsI (WOn σ) (bst (opn σ) (fun a b => decide (WOn σ a < WOn σ b)) (i + 1))) (by rw [hnx]; rfl) ?_
                refine lv_istore_n (lv' := [(3, .int (lsI (WOn σ) (bst (opn σ) (fun a b => decide (WOn σ a < WOn σ b)) (i + 1)))), (2, .int (optI (bst (opn σ) (fun a b => decide (WOn σ a < WOn σ b)) (i + 1)))), (6, .int (nI 1)), (5, .int (nI (WOn σ i))), (0, .ref (fa g 239)), (1, .int x), (4, .int (nI i))]) hx hb dX8_sharpest_132 rfl hl (by decide) rfl (fun ls hl => ?_)
                refine lv_iinc (v := (nI (i + 1))) (lv' := [(4, .int (nI (i + 1))), (3, .int (lsI (WOn σ) (bst (opn σ) (fun a b => decide (WOn σ a < WOn σ b)) (i + 1)))), (2, .int (optI (bst (opn σ) (fun a b => decide (WOn σ a < WOn σ b)) (i + 1)))), (6, .int (nI 1)), (5, .int (nI (WOn σ i))), (0, .ref (fa g 239)), (1, .int x)]) hx hb dX8_sharpest_133 hl (k := 6) rfl (nI_1 _) (by decide) rfl (fun ls hl => ?_)
                refine lv_goto (tgt := 24) hx hb dX8_sharpest_136 (by decide) ?_
                exact ih (i + 1) ls _ (by (try dsimp only); omega) ⟨lv_sub hl [5, 6, 2, 1, 0] rfl, by omega⟩ hS
  · have c_6 := (fb_0 p_3).mp c_6
    refine lv_bipush (v := (-2)) hx hb dX8_sharpest_9 (by decide) ?_
    refine fs_iret E hr hlk hP hS dX8_sharpest_11 ?_
    refine ⟨?_, hR, fSame.rf⟩
    rw [if_neg (fun y => c_6 (w01.mpr y))]
