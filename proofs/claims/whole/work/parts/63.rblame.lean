theorem bst_none {op : Nat → Bool} {lt : Nat → Nat → Bool} : ∀ {m : Nat}, bst op lt m = none → ∀ r, r < m → op r = false := by
  intro m
  induction m with
  | zero => intro _ r hr; exact absurd hr (by omega)
  | succ m ih =>
    intro h
    by_cases e : op m = true
    · exfalso
      cases hb : bst op lt m with
      | none => rw [bst_new e hb] at h; cases h
      | some c =>
        by_cases e2 : lt m c = true
        · rw [bst_yes e hb e2] at h; cases h
        · rw [bst_old e hb (Bool.eq_false_iff.mpr e2)] at h; cases h
    · have e3 := Bool.eq_false_iff.mpr e
      rw [bst_no e3] at h
      intro r hr
      by_cases y : r = m
      · subst y; exact e3
      · exact ih h r (by omega)
theorem bl_some {σ : Nat → Int32} (hG : Good σ) (hW : ¬ 0 < Wn σ) : blF σ ≠ none := by
  intro h
  have h1 := bst_none h
  refine hW (cN_pos (i := 0) hG.M.2 (ok_of (fun r hr => bad_op ?_)))
  have h2 := h1 r hr
  have h3 : opn σ r = true := by cases y : opn σ r with
    | true => rfl
    | false => rw [y] at h2; cases h2
  exact of_decide_eq_true h3
set_option maxRecDepth 100000 in
set_option maxHeartbeats 4000000 in
theorem c_X8_blame (l : Launch) (g : fG) (N : Nat) (ct : Nat → va_E) (σ : Nat → Int32) (k : Nat) (hs : Nat → Nat → Int32) (u1 : Bool) (s1 : Nat → Int32) (u2 : Bool) (s2 : Nat → Int32) (t : Nat → Nat) (len : Nat) (hN : 249 ≤ N) (hG : Good σ) (hR : RFAt g ct σ k hs u1 s1 u2 s2 t len) (x : Int32) : Met l yX8_blame (wsU yX8_blame cX8_blame 6 (some .int)) rX8_blame (fPre g N ct [.ref (fa g 239), .int x]) (fQi g N (fun r ct1 => r = (if x = 0 ∨ x = nI 1 then blR σ x else -2) ∧ RFAt g ct1 σ k hs u1 s1 u2 s2 t len ∧ fSame 239 249 ct ct1)) 0 0 (fB g) := by
  refine fs_start (own := RX8) (lv0 := [(0, .ref (fa g 239)), (1, .int x)]) (by decide) rfl (Nat.le_of_ble_eq_true rfl) rfl ?_
  intro p e s m args below meth c ls E hr hlk hnm hP hl hS
  have hx := E.1.1
  have hb := E.1.2.1
  obtain ⟨z, F, hM, hT, hH, hS9, hQ⟩ := id hR
  have m_1o : ct 239 = .inr (8, [.ref (fa g 240), .ref (fa g 241), .int (z 0), .ref (fa g 242), .ref (fa g 243), .ref (fa g 244), .int (z 1), .ref (fa g 245), .int (z 2), .ref (fa g 246), .ref (fa g 247), .ref (fa g 248), .int (z 3), .int (z 4), .int (z 5), .int (z 6), .int (z 7), .int (z 8), .int (z 9)]) := (hM).1
  have m_1r0 : ct 240 = .inl (fcI g, 121, .inl (F 0)) := (hM).2.1
  have m_1r1 : ct 241 = .inl (fcI g, 726, .inl (F 1)) := (hM).2.2.1
  have m_1r2 : ct 242 = .inl (fcI g, 242, .inl (F 2)) := (hM).2.2.2.1
  have m_1r3 : ct 243 = .inl (fcI g, 2, .inl (F 3)) := (hM).2.2.2.2.1
  have m_1r4 : ct 244 = .inl (fcI g, 60, .inl (F 4)) := (hM).2.2.2.2.2.1
  have m_1r5 : ct 245 = .inl (fcI g, 6, .inl (F 5)) := (hM).2.2.2.2.2.2.1
  have m_1r6 : ct 246 = .inl (fcI g, 36, .inl (F 6)) := (hM).2.2.2.2.2.2.2.1
  have m_1r7 : ct 247 = .inl (fcI g, 20, .inl (F 7)) := (hM).2.2.2.2.2.2.2.2.1
  have m_1r8 : ct 248 = .inl (fcI g, 20, .inl (F 8)) := (hM).2.2.2.2.2.2.2.2.2
  have hn3 := hG.n3
  have hn6 := hG.n6
  have hk20 := hG.k
  have hWl := Wn_le hG
  refine lv_iload_n hx hb dX8_blame_0 rfl (lv_at hl 1 rfl) ?_
  refine lv_iconst (v := (nI 0)) hx hb dX8_blame_1 (by decide) ?_
  refine lv_iconst (v := (nI 1)) hx hb dX8_blame_2 (by decide) ?_
  refine fs_pi (va_runS (As := [.int x, .int (nI 0), .int (nI 1)]) (rest := []) E.1 (c_X8_within l g N ct x (nI 0) (nI 1)) (lk_RX8_49 E.1.2.2.2.2 ⟨Nat.le_of_ble_eq_true rfl, Nat.le_of_ble_eq_true rfl⟩) (fpreS E hP hS) rfl rfl hl.1 rfl (lv_room (Nat.le_of_ble_eq_true rfl)) dX8_blame_3 ⟨Nat.zero_le _, Nat.zero_le _⟩) hS (fun r_3 locs p_3 hS => ?_)
  refine lv_if_ne (tgt := 12) hx hb dX8_blame_6 (by decide) (fun c_6 => ?_) (fun c_6 => ?_)
  · have c_6 := (fb_1 p_3).mp c_6
    refine lv_aload_n hx hb dX8_blame_12 rfl (lv_at hl 0 rfl) ?_
    refine fs_v (va_runV (As := []) (rest := []) E.1 (c_X8_goThrough l g N ct z F σ (by omega) hG hM hT) (lk_RX8_102 E.1.2.2.2.2 ⟨Nat.le_of_ble_eq_true rfl, Nat.le_of_ble_eq_true rfl⟩) (fpreV E hP hS fc8 m_1o (by omega)) rfl rfl hl.1 rfl (lv_room (Nat.le_of_ble_eq_true rfl)) dX8_blame_13 ⟨Nat.zero_le _, Nat.zero_le _⟩) hS (fun ct_2 H locs p_13 hP hS => ?_)
    obtain ⟨z_3, F_4, M_5, K_6, C_7, S_8⟩ := p_13
    have T_9 := KK.sr K_6 hT
    have m_10o : ct_2 239 = .inr (8, [.ref (fa g 240), .ref (fa g 241), .int (z_3 0), .ref (fa g 242), .ref (fa g 243), .ref (fa g 244), .int (z_3 1), .ref (fa g 245), .int (z_3 2), .ref (fa g 246), .ref (fa g 247), .ref (fa g 248), .int (z_3 3), .int (z_3 4), .int (z_3 5), .int (z_3 6), .int (z_3 7), .int (z_3 8), .int (z_3 9)]) := (M_5).1
    have m_10r0 : ct_2 240 = .inl (fcI g, 121, .inl (F_4 0)) := (M_5).2.1
    have m_10r1 : ct_2 241 = .inl (fcI g, 726, .inl (F_4 1)) := (M_5).2.2.1
    have m_10r2 : ct_2 242 = .inl (fcI g, 242, .inl (F_4 2)) := (M_5).2.2.2.1
    have m_10r3 : ct_2 243 = .inl (fcI g, 2, .inl (F_4 3)) := (M_5).2.2.2.2.1
    have m_10r4 : ct_2 244 = .inl (fcI g, 60, .inl (F_4 4)) := (M_5).2.2.2.2.2.1
    have m_10r5 : ct_2 245 = .inl (fcI g, 6, .inl (F_4 5)) := (M_5).2.2.2.2.2.2.1
    have m_10r6 : ct_2 246 = .inl (fcI g, 36, .inl (F_4 6)) := (M_5).2.2.2.2.2.2.2.1
    have m_10r7 : ct_2 247 = .inl (fcI g, 20, .inl (F_4 7)) := (M_5).2.2.2.2.2.2.2.2.1
    have m_10r8 : ct_2 248 = .inl (fcI g, 20, .inl (F_4 8)) := (M_5).2.2.2.2.2.2.2.2.2
    refine lv_aload_n hx hb dX8_blame_16 rfl (lv_at hl 0 rfl) ?_
    refine fs_get E hP (k := 239) (v := .int (z_3 2)) 8 fc8 m_10o (by omega) (by decide) (wm wl_21 (i := 7) rfl) rfl dX8_blame_17 ?_
    refine fs_vi (y := nI (Wn σ)) C_7.1 ?_
    refine lv_if_le (tgt := 26) hx hb dX8_blame_20 (by decide) (fun c_20 => ?_) (fun c_20 => ?_)
    · rw [fz_leN (by omega)] at c_20
      refine lv_bipush (v := (-6)) hx hb dX8_blame_26 (by decide) ?_
      refine lv_istore_n (lv' := [(2, .int (-6)), (0, .ref (fa g 239)), (1, .int x)]) hx hb dX8_blame_28 rfl hl (by decide) rfl (fun ls hl => ?_)
      refine lv_iconst (v := (nI 0)) hx hb dX8_blame_29 (by decide) ?_
      refine lv_istore_n (lv' := [(3, .int (nI 0)), (2, .int (-6)), (0, .ref (fa g 239)), (1, .int x)]) hx hb dX8_blame_30 rfl hl (by decide) rfl (fun ls hl => ?_)
      refine lv_iconst (v := (nI 0)) hx hb dX8_blame_31 (by decide) ?_
      refine lv_istore (lv' := [(4, .int (nI 0)), (3, .int (nI 0)), (2, .int (-6)), (0, .ref (fa g 239)), (1, .int x)]) hx hb dX8_blame_32 hl (by decide) rfl (fun ls hl => ?_)
      refine fs_indP (g := g) (St := Nat) (fun (i : Nat) (ls : Array Slot) => lv_has ls 6 [(0, .ref (fa g 239)), (1, .int x), (2, .int (optI (bst (fun r => !opn σ r) (fun a b => decide (ONn σ b < ONn σ a)) i))), (3, .int (lsI (ONn σ) (bst (fun r => !opn σ r) (fun a b => decide (ONn σ b < ONn σ a)) i))), (4, .int (nI i))] ∧ i ≤ nT σ) (fun (i : Nat) => nT σ - i) ?_ 0 ls _ ⟨lv_sub hl [3, 4, 2, 1, 0] rfl, Nat.zero_le _⟩ hS
      clear hl hS
      intro st ls locs hI hS ih
      obtain ⟨i, rfl⟩ : ∃ z, z = st := ⟨_, rfl⟩
      obtain ⟨hl, hI⟩ := hI
      have hI0 := hI
      have hHl : ONn σ i ≤ 15625 := Nat.le_trans (cN_le _ _) hG.M.1
      refine lv_iload hx hb dX8_blame_34 (lv_at hl 4 rfl) ?_
      refine lv_aload_n hx hb dX8_blame_36 rfl (lv_at hl 0 rfl) ?_
      refine fs_get E hP (k := 239) (v := .ref (fa g 240)) 0 fc8 m_10o (by omega) (by decide) (wm wl_5 (i := 0) rfl) rfl dX8_blame_37 ?_
      refine lv_iconst (v := (nI 1)) hx hb dX8_blame_40 (by decide) ?_
      refine fs_iald E hP (k := 240) m_10r0 (by omega) (vp_in_nI (by omega) (by omega)) dX8_blame_41 ?_
      refine fs_vi (y := (F_4 0) 1) (congrArg (F_4 0) (nI_clamp (by omega))) ?_
      refine fs_vi (y := (nI (nT σ))) (T_9.k hG) ?_
      refine lv_icmp_ge (tgt := 113) hx hb dX8_blame_42 (by decide) (fun c_42 => ?_) (fun c_42 => ?_)
      · rw [nI_leI (by omega) (by omega)] at c_42
        have hin : i = nT σ := by omega
        rcases hbs113 : (bst (fun r => !opn σ r) (fun a b => decide (ONn σ b < ONn σ a)) i) with _ | b1
        · have e2 : optI (bst (fun r => !opn σ r) (fun a b => decide (ONn σ b < ONn σ a)) i) = -6 := by rw [hbs113]; rfl
          have e3 : lsI (ONn σ) (bst (fun r => !opn σ r) (fun a b => decide (ONn σ b < ONn σ a)) i) = nI 0 := by rw [hbs113]; rfl
          rw [e2, e3] at hl
          have hsf : blF σ = none := by rw [← hbs113, hin]; rfl
          refine lv_iload_n hx hb dX8_blame_113 rfl (lv_at hl 1 rfl) ?_
          refine lv_if_ne (tgt := 121) hx hb dX8_blame_114 (by decide) (fun c_114 => ?_) (fun c_114 => ?_)
          · refine lv_iload_n hx hb dX8_blame_121 rfl (lv_at hl 3 rfl) ?_
            refine fs_iret E hr hlk hP hS dX8_blame_122 ?_
            exact absurd hsf (bl_some hG (by omega))
          · refine lv_iload_n hx hb dX8_blame_117 rfl (lv_at hl 2 rfl) ?_
            refine lv_goto (tgt := 122) hx hb dX8_blame_118 (by decide) ?_
            refine fs_iret E hr hlk hP hS dX8_blame_122 ?_
            exact absurd hsf (bl_some hG (by omega))
        · have e2 : optI (bst (fun r => !opn σ r) (fun a b => decide (ONn σ b < ONn σ a)) i) = nI b1 := by rw [hbs113]; rfl
          have e3 : lsI (ONn σ) (bst (fun r => !opn σ r) (fun a b => decide (ONn σ b < ONn σ a)) i) = nI (ONn σ b1) := by rw [hbs113]; rfl
          rw [e2, e3] at hl
          have hb1 := (bst_lt hbs113).1
          have hwb : ONn σ b1 ≤ 15625 := Nat.le_trans (cN_le _ _) hG.M.1
          have hsf : blF σ = some b1 := by rw [← hbs113, hin]; rfl
          refine lv_iload_n hx hb dX8_blame_113 rfl (lv_at hl 1 rfl) ?_
          refine lv_if_ne (tgt := 121) hx hb dX8_blame_114 (by decide) (fun c_114 => ?_) (fun c_114 => ?_)
          · refine lv_iload_n hx hb dX8_blame_121 rfl (lv_at hl 3 rfl) ?_
            refine fs_iret E hr hlk hP hS dX8_blame_122 ?_
            refine ⟨?_, RFAt.kk hT hH hS9 hQ M_5 K_6, (show fSame 239 249 _ _ from (fSame.tr2 fSame.rf S_8 (by omega) (by omega)))⟩
            rw [if_pos (w01.mp c_6), blR_1 (by omega) hsf c_114]
          · refine lv_iload_n hx hb dX8_blame_117 rfl (lv_at hl 2 rfl) ?_
            refine lv_goto (tgt := 122) hx hb dX8_blame_118 (by decide) ?_
            refine fs_iret E hr hlk hP hS dX8_blame_122 ?_
            refine ⟨?_, RFAt.kk hT hH hS9 hQ M_5 K_6, (show fSame 239 249 _ _ from (fSame.tr2 fSame.rf S_8 (by omega) (by omega)))⟩
            rw [if_pos (w01.mp c_6), blR_0 (by omega) hsf c_114]
      · rw [nI_leI (by omega) (by omega)] at c_42
        rcases hbs45 : (bst (fun r => !opn σ r) (fun a b => decide (ONn σ b < ONn σ a)) i) with _ | b1
        · have e2 : optI (bst (fun r => !opn σ r) (fun a b => decide (ONn σ b < ONn σ a)) i) = -6 := by rw [hbs45]; rfl
          have e3 : lsI (ONn σ) (bst (fun r => !opn σ r) (fun a b => decide (ONn σ b < ONn σ a)) i) = nI 0 := by rw [hbs45]; rfl
          rw [e2, e3] at hl
          refine lv_aload_n hx hb dX8_blame_45 rfl (lv_at hl 0 rfl) ?_
          refine lv_iload hx hb dX8_blame_46 (lv_at hl 4 rfl) ?_
          refine fs_pi (va_runV (As := [.int (nI i)]) (rest := []) E.1 (c_X8_isOpen l g N ct_2 z_3 F_4 σ (by omega) hG M_5 T_9 i (by omega)) (lk_RX8_74 E.1.2.2.2.2 ⟨Nat.le_of_ble_eq_true rfl, Nat.le_of_ble_eq_true rfl⟩) (fpreV E hP hS fc8 m_10o (by omega)) rfl rfl hl.1 rfl (lv_room (Nat.le_of_ble_eq_true rfl)) dX8_blame_48 ⟨Nat.zero_le _, Nat.zero_le _⟩) hS (fun r_48 locs p_48 hS => ?_)
          refine lv_if_ne (tgt := 75) hx hb dX8_blame_51 (by decide) (fun c_51 => ?_) (fun c_51 => ?_)
          · have c_51 := (fb_1 p_48).mp c_51
            refine lv_iconst (v := (nI 0)) hx hb dX8_blame_75 (by decide) ?_
            refine lv_istore (lv' := [(5, .int (nI 0)), (0, .ref (fa g 239)), (1, .int x), (2, .int (-6)), (3, .int (nI 0)), (4, .int (nI i))]) hx hb dX8_blame_76 hl (by decide) rfl (fun ls hl => ?_)
            have hnx : (bst (fun r => !opn σ r) (fun a b => decide (ONn σ b < ONn σ a)) (i + 1)) = none := (bst_no (by rw [show opn σ i = true from decide_eq_true c_51]; rfl)).trans hbs45
            refine lv_iload hx hb dX8_blame_78 (lv_at hl 0 rfl) ?_
            refine lv_if_eq (tgt := 88) hx hb dX8_blame_80 (by decide) (fun c_80 => ?_) (fun c_80 => ?_)
            rotate_left
            · exact absurd c_80 (by decide)
            refine lv_iload_n hx hb dX8_blame_88 rfl (lv_at hl 3 rfl) ?_
            refine fs_vi (y := optI (bst (fun r => !opn σ r) (fun a b => decide (ONn σ b < ONn σ a)) (i + 1))) (by rw [hnx]; rfl) ?_
            refine lv_istore_n (lv' := [(2, .int (optI (bst (fun r => !opn σ r) (fun a b => decide (ONn σ b < ONn σ a)) (i + 1)))), (5, .int (nI 0)), (0, .ref (fa g 239)), (1, .int x), (3, .int (nI 0)), (4, .int (nI i))]) hx hb dX8_blame_89 rfl hl (by decide) rfl (fun ls hl => ?_)
            refine lv_iload hx hb dX8_blame_90 (lv_at hl 1 rfl) ?_
            refine lv_if_eq (tgt := 105) hx hb dX8_blame_92 (by decide) (fun c_92 => ?_) (fun c_92 => ?_)
            rotate_left
            · exact absurd c_92 (by decide)
            refine lv_iload_n hx hb dX8_blame_105 rfl (lv_at hl 4 rfl) ?_
            refine fs_vi (y := lsI (ONn σ) (bst (fun r => !opn σ r) (fun a b => decide (ONn σ b < ONn σ a)) (i + 1))) (by rw [hnx]; rfl) ?_
            refine lv_istore_n (lv' := [(3, .int (lsI (ONn σ) (bst (fun r => !opn σ r) (fun a b => decide (ONn σ b < ONn σ a)) (i + 1)))), (2, .int (optI (bst (fun r => !opn σ r) (fun a b => decide (ONn σ b < ONn σ a)) (i + 1)))), (5, .int (nI 0)), (0, .ref (fa g 239)), (1, .int x), (4, .int (nI i))]) hx hb dX8_blame_106 rfl hl (by decide) rfl (fun ls hl => ?_)
            refine lv_iinc (v := (nI (i + 1))) (lv' := [(4, .int (nI (i + 1))), (3, .int (lsI (ONn σ) (bst (fun r => !opn σ r) (fun a b => decide (ONn σ b < ONn σ a)) (i + 1)))), (2, .int (optI (bst (fun r => !opn σ r) (fun a b => decide (ONn σ b < ONn σ a)) (i + 1)))), (5, .int (nI 0)), (0, .ref (fa g 239)), (1, .int x)]) hx hb dX8_blame_107 hl (k := 5) rfl (nI_1 _) (by decide) rfl (fun ls hl => ?_)
            refine lv_goto (tgt := 34) hx hb dX8_blame_110 (by decide) ?_
            exact ih (i + 1) ls _ (by (try dsimp only); omega) ⟨lv_sub hl [4, 5, 2, 1, 0] rfl, by omega⟩ hS
          · have c_51 := (fb_0 p_48).mp c_51
            refine lv_iload_n hx hb dX8_blame_54 rfl (lv_at hl 2 rfl) ?_
            refine lv_bipush (v := (-6)) hx hb dX8_blame_55 (by decide) ?_
            refine lv_icmp_eq (tgt := 71) hx hb dX8_blame_57 (by decide) (fun c_57 => ?_) (fun c_57 => ?_)
            rotate_left
            · exact absurd c_57 (by decide)
            refine lv_iconst (v := (nI 1)) hx hb dX8_blame_71 (by decide) ?_
            refine lv_goto (tgt := 76) hx hb dX8_blame_72 (by decide) ?_
            refine lv_istore (lv' := [(5, .int (nI 1)), (0, .ref (fa g 239)), (1, .int x), (2, .int (-6)), (3, .int (nI 0)), (4, .int (nI i))]) hx hb dX8_blame_76 hl (by decide) rfl (fun ls hl => ?_)
            have hnx : (bst (fun r => !opn σ r) (fun a b => decide (ONn σ b < ONn σ a)) (i + 1)) = some i := bst_new (by rw [show opn σ i = false from decide_eq_false c_51]; rfl) hbs45
            refine lv_iload hx hb dX8_blame_78 (lv_at hl 0 rfl) ?_
            refine lv_if_eq (tgt := 88) hx hb dX8_blame_80 (by decide) (fun c_80 => ?_) (fun c_80 => ?_)
            · exact absurd c_80 (by decide)
            refine lv_iload hx hb dX8_blame_83 (lv_at hl 5 rfl) ?_
            refine lv_goto (tgt := 89) hx hb dX8_blame_85 (by decide) ?_
            refine fs_vi (y := optI (bst (fun r => !opn σ r) (fun a b => decide (ONn σ b < ONn σ a)) (i + 1))) (by rw [hnx]; rfl) ?_
            refine lv_istore_n (lv' := [(2, .int (optI (bst (fun r => !opn σ r) (fun a b => decide (ONn σ b < ONn σ a)) (i + 1)))), (5, .int (nI 1)), (0, .ref (fa g 239)), (1, .int x), (3, .int (nI 0)), (4, .int (nI i))]) hx hb dX8_blame_89 rfl hl (by decide) rfl (fun ls hl => ?_)
            refine lv_iload hx hb dX8_blame_90 (lv_at hl 1 rfl) ?_
            refine lv_if_eq (tgt := 105) hx hb dX8_blame_92 (by decide) (fun c_92 => ?_) (fun c_92 => ?_)
            · exact absurd c_92 (by decide)
            refine lv_aload_n hx hb dX8_blame_95 rfl (lv_at hl 2 rfl) ?_
            refine fs_get E hP (k := 239) (v := .ref (fa g 248)) 11 fc8 m_10o (by omega) (by decide) (wm wl_5 (i := 8) rfl) rfl dX8_blame_96 ?_
            refine lv_iload hx hb dX8_blame_99 (lv_at hl 5 rfl) ?_
            refine fs_iald E hP (k := 248) m_10r8 (by omega) (vp_in_nI (by omega) (by omega)) dX8_blame_101 ?_
            refine fs_vi (y := (F_4 8) i) (congrArg (F_4 8) (nI_clamp (by omega))) ?_
            refine fs_vi (y := (nI (ONn σ i))) (C_7.2.2.2.1 i (by omega)) ?_
            refine lv_goto (tgt := 106) hx hb dX8_blame_102 (by decide) ?_
            refine fs_vi (y := lsI (ONn σ) (bst (fun r => !opn σ r) (fun a b => decide (ONn σ b < ONn σ a)) (i + 1))) (by rw [hnx]; rfl) ?_
            refine lv_istore_n (lv' := [(3, .int (lsI (ONn σ) (bst (fun r => !opn σ r) (fun a b => decide (ONn σ b < ONn σ a)) (i + 1)))), (2, .int (optI (bst (fun r => !opn σ r) (fun a b => decide (ONn σ b < ONn σ a)) (i + 1)))), (5, .int (nI 1)), (0, .ref (fa g 239)), (1, .int x), (4, .int (nI i))]) hx hb dX8_blame_106 rfl hl (by decide) rfl (fun ls hl => ?_)
            refine lv_iinc (v := (nI (i + 1))) (lv' := [(4, .int (nI (i + 1))), (3, .int (lsI (ONn σ) (bst (fun r => !opn σ r) (fun a b => decide (ONn σ b < ONn σ a)) (i + 1)))), (2, .int (optI (bst (fun r => !opn σ r) (fun a b => decide (ONn σ b < ONn σ a)) (i + 1)))), (5, .int (nI 1)), (0, .ref (fa g 239)), (1, .int x)]) hx hb dX8_blame_107 hl (k := 5) rfl (nI_1 _) (by decide) rfl (fun ls hl => ?_)
            refine lv_goto (tgt := 34) hx hb dX8_blame_110 (by decide) ?_
            exact ih (i + 1) ls _ (by (try dsimp only); omega) ⟨lv_sub hl [4, 5, 2, 1, 0] rfl, by omega⟩ hS
        · have e2 : optI (bst (fun r => !opn σ r) (fun a b => decide (ONn σ b < ONn σ a)) i) = nI b1 := by rw [hbs45]; rfl
          have e3 : lsI (ONn σ) (bst (fun r => !opn σ r) (fun a b => decide (ONn σ b < ONn σ a)) i) = nI (ONn σ b1) := by rw [hbs45]; rfl
          rw [e2, e3] at hl
          have hb1 := (bst_lt hbs45).1
          have hwb : ONn σ b1 ≤ 15625 := Nat.le_trans (cN_le _ _) hG.M.1
          refine lv_aload_n hx hb dX8_blame_45 rfl (lv_at hl 0 rfl) ?_
          refine lv_iload hx hb dX8_blame_46 (lv_at hl 4 rfl) ?_
          refine fs_pi (va_runV (As := [.int (nI i)]) (rest := []) E.1 (c_X8_isOpen l g N ct_2 z_3 F_4 σ (by omega) hG M_5 T_9 i (by omega)) (lk_RX8_74 E.1.2.2.2.2 ⟨Nat.le_of_ble_eq_true rfl, Nat.le_of_ble_eq_true rfl⟩) (fpreV E hP hS fc8 m_10o (by omega)) rfl rfl hl.1 rfl (lv_room (Nat.le_of_ble_eq_true rfl)) dX8_blame_48 ⟨Nat.zero_le _, Nat.zero_le _⟩) hS (fun r_48 locs p_48 hS => ?_)
          refine lv_if_ne (tgt := 75) hx hb dX8_blame_51 (by decide) (fun c_51 => ?_) (fun c_51 => ?_)
          · have c_51 := (fb_1 p_48).mp c_51
            refine lv_iconst (v := (nI 0)) hx hb dX8_blame_75 (by decide) ?_
            refine lv_istore (lv' := [(5, .int (nI 0)), (0, .ref (fa g 239)), (1, .int x), (2, .int (nI b1)), (3, .int (nI (ONn σ b1))), (4, .int (nI i))]) hx hb dX8_blame_76 hl (by decide) rfl (fun ls hl => ?_)
            have hnx : (bst (fun r => !opn σ r) (fun a b => decide (ONn σ b < ONn σ a)) (i + 1)) = some b1 := (bst_no (by rw [show opn σ i = true from decide_eq_true c_51]; rfl)).trans hbs45
            refine lv_iload hx hb dX8_blame_78 (lv_at hl 0 rfl) ?_
            refine lv_if_eq (tgt := 88) hx hb dX8_blame_80 (by decide) (fun c_80 => ?_) (fun c_80 => ?_)
            rotate_left
            · exact absurd c_80 (by decide)
            refine lv_iload_n hx hb dX8_blame_88 rfl (lv_at hl 3 rfl) ?_
            refine fs_vi (y := optI (bst (fun r => !opn σ r) (fun a b => decide (ONn σ b < ONn σ a)) (i + 1))) (by rw [hnx]; rfl) ?_
            refine lv_istore_n (lv' := [(2, .int (optI (bst (fun r => !opn σ r) (fun a b => decide (ONn σ b < ONn σ a)) (i + 1)))), (5, .int (nI 0)), (0, .ref (fa g 239)), (1, .int x), (3, .int (nI (ONn σ b1))), (4, .int (nI i))]) hx hb dX8_blame_89 rfl hl (by decide) rfl (fun ls hl => ?_)
            refine lv_iload hx hb dX8_blame_90 (lv_at hl 1 rfl) ?_
            refine lv_if_eq (tgt := 105) hx hb dX8_blame_92 (by decide) (fun c_92 => ?_) (fun c_92 => ?_)
            rotate_left
            · exact absurd c_92 (by decide)
            refine lv_iload_n hx hb dX8_blame_105 rfl (lv_at hl 4 rfl) ?_
            refine fs_vi (y := lsI (ONn σ) (bst (fun r => !opn σ r) (fun a b => decide (ONn σ b < ONn σ a)) (i + 1))) (by rw [hnx]; rfl) ?_
            refine lv_istore_n (lv' := [(3, .int (lsI (ONn σ) (bst (fun r => !opn σ r) (fun a b => decide (ONn σ b < ONn σ a)) (i + 1)))), (2, .int (optI (bst (fun r => !opn σ r) (fun a b => decide (ONn σ b < ONn σ a)) (i + 1)))), (5, .int (nI 0)), (0, .ref (fa g 239)), (1, .int x), (4, .int (nI i))]) hx hb dX8_blame_106 rfl hl (by decide) rfl (fun ls hl => ?_)
            refine lv_iinc (v := (nI (i + 1))) (lv' := [(4, .int (nI (i + 1))), (3, .int (lsI (ONn σ) (bst (fun r => !opn σ r) (fun a b => decide (ONn σ b < ONn σ a)) (i + 1)))), (2, .int (optI (bst (fun r => !opn σ r) (fun a b => decide (ONn σ b < ONn σ a)) (i + 1)))), (5, .int (nI 0)), (0, .ref (fa g 239)), (1, .int x)]) hx hb dX8_blame_107 hl (k := 5) rfl (nI_1 _) (by decide) rfl (fun ls hl => ?_)
            refine lv_goto (tgt := 34) hx hb dX8_blame_110 (by decide) ?_
            exact ih (i + 1) ls _ (by (try dsimp only); omega) ⟨lv_sub hl [4, 5, 2, 1, 0] rfl, by omega⟩ hS
          · have c_51 := (fb_0 p_48).mp c_51
            refine lv_iload_n hx hb dX8_blame_54 rfl (lv_at hl 2 rfl) ?_
            refine lv_bipush (v := (-6)) hx hb dX8_blame_55 (by decide) ?_
            refine lv_icmp_eq (tgt := 71) hx hb dX8_blame_57 (by decide) (fun c_57 => ?_) (fun c_57 => ?_)
            · exact absurd c_57 (nI_ne6 (by omega))
            · refine lv_aload_n hx hb dX8_blame_60 rfl (lv_at hl 0 rfl) ?_
              refine fs_get E hP (k := 239) (v := .ref (fa g 248)) 11 fc8 m_10o (by omega) (by decide) (wm wl_5 (i := 8) rfl) rfl dX8_blame_61 ?_
              refine lv_iload hx hb dX8_blame_64 (lv_at hl 4 rfl) ?_
              refine fs_iald E hP (k := 248) m_10r8 (by omega) (vp_in_nI (by omega) (by omega)) dX8_blame_66 ?_
              refine fs_vi (y := (F_4 8) i) (congrArg (F_4 8) (nI_clamp (by omega))) ?_
              refine fs_vi (y := (nI (ONn σ i))) (C_7.2.2.2.1 i (by omega)) ?_
              refine lv_iload_n hx hb dX8_blame_67 rfl (lv_at hl 3 rfl) ?_
              refine lv_icmp_le (tgt := 75) hx hb dX8_blame_68 (by decide) (fun c_68 => ?_) (fun c_68 => ?_)
              · rw [nI_leI (by omega) (by omega)] at c_68
                refine lv_iconst (v := (nI 0)) hx hb dX8_blame_75 (by decide) ?_
                refine lv_istore (lv' := [(5, .int (nI 0)), (0, .ref (fa g 239)), (1, .int x), (2, .int (nI b1)), (3, .int (nI (ONn σ b1))), (4, .int (nI i))]) hx hb dX8_blame_76 hl (by decide) rfl (fun ls hl => ?_)
                have hnx : (bst (fun r => !opn σ r) (fun a b => decide (ONn σ b < ONn σ a)) (i + 1)) = some b1 := bst_old (by rw [show opn σ i = false from decide_eq_false c_51]; rfl) hbs45 (decide_eq_false (by omega))
                refine lv_iload hx hb dX8_blame_78 (lv_at hl 0 rfl) ?_
                refine lv_if_eq (tgt := 88) hx hb dX8_blame_80 (by decide) (fun c_80 => ?_) (fun c_80 => ?_)
                rotate_left
                · exact absurd c_80 (by decide)
                refine lv_iload_n hx hb dX8_blame_88 rfl (lv_at hl 3 rfl) ?_
                refine fs_vi (y := optI (bst (fun r => !opn σ r) (fun a b => decide (ONn σ b < ONn σ a)) (i + 1))) (by rw [hnx]; rfl) ?_
                refine lv_istore_n (lv' := [(2, .int (optI (bst (fun r => !opn σ r) (fun a b => decide (ONn σ b < ONn σ a)) (i + 1)))), (5, .int (nI 0)), (0, .ref (fa g 239)), (1, .int x), (3, .int (nI (ONn σ b1))), (4, .int (nI i))]) hx hb dX8_blame_89 rfl hl (by decide) rfl (fun ls hl => ?_)
                refine lv_iload hx hb dX8_blame_90 (lv_at hl 1 rfl) ?_
                refine lv_if_eq (tgt := 105) hx hb dX8_blame_92 (by decide) (fun c_92 => ?_) (fun c_92 => ?_)
                rotate_left
                · exact absurd c_92 (by decide)
                refine lv_iload_n hx hb dX8_blame_105 rfl (lv_at hl 4 rfl) ?_
                refine fs_vi (y := lsI (ONn σ) (bst (fun r => !opn σ r) (fun a b => decide (ONn σ b < ONn σ a)) (i + 1))) (by rw [hnx]; rfl) ?_
                refine lv_istore_n (lv' := [(3, .int (lsI (ONn σ) (bst (fun r => !opn σ r) (fun a b => decide (ONn σ b < ONn σ a)) (i + 1)))), (2, .int (optI (bst (fun r => !opn σ r) (fun a b => decide (ONn σ b < ONn σ a)) (i + 1)))), (5, .int (nI 0)), (0, .ref (fa g 239)), (1, .int x), (4, .int (nI i))]) hx hb dX8_blame_106 rfl hl (by decide) rfl (fun ls hl => ?_)
                refine lv_iinc (v := (nI (i + 1))) (lv' := [(4, .int (nI (i + 1))), (3, .int (lsI (ONn σ) (bst (fun r => !opn σ r) (fun a b => decide (ONn σ b < ONn σ a)) (i + 1)))), (2, .int (optI (bst (fun r => !opn σ r) (fun a b => decide (ONn σ b < ONn σ a)) (i + 1)))), (5, .int (nI 0)), (0, .ref (fa g 239)), (1, .int x)]) hx hb dX8_blame_107 hl (k := 5) rfl (nI_1 _) (by decide) rfl (fun ls hl => ?_)
                refine lv_goto (tgt := 34) hx hb dX8_blame_110 (by decide) ?_
                exact ih (i + 1) ls _ (by (try dsimp only); omega) ⟨lv_sub hl [4, 5, 2, 1, 0] rfl, by omega⟩ hS
              · rw [nI_leI (by omega) (by omega)] at c_68
                refine lv_iconst (v := (nI 1)) hx hb dX8_blame_71 (by decide) ?_
                refine lv_goto (tgt := 76) hx hb dX8_blame_72 (by decide) ?_
                refine lv_istore (lv' := [(5, .int (nI 1)), (0, .ref (fa g 239)), (1, .int x), (2, .int (nI b1)), (3, .int (nI (ONn σ b1))), (4, .int (nI i))]) hx hb dX8_blame_76 hl (by decide) rfl (fun ls hl => ?_)
                have hnx : (bst (fun r => !opn σ r) (fun a b => decide (ONn σ b < ONn σ a)) (i + 1)) = some i := bst_yes (by rw [show opn σ i = false from decide_eq_false c_51]; rfl) hbs45 (decide_eq_true (by omega))
                refine lv_iload hx hb dX8_blame_78 (lv_at hl 0 rfl) ?_
                refine lv_if_eq (tgt := 88) hx hb dX8_blame_80 (by decide) (fun c_80 => ?_) (fun c_80 => ?_)
                · exact absurd c_80 (by decide)
                refine lv_iload hx hb dX8_blame_83 (lv_at hl 5 rfl) ?_
                refine lv_goto (tgt := 89) hx hb dX8_blame_85 (by decide) ?_
                refine fs_vi (y := optI (bst (fun r => !opn σ r) (fun a b => decide (ONn σ b < ONn σ a)) (i + 1))) (by rw [hnx]; rfl) ?_
                refine lv_istore_n (lv' := [(2, .int (optI (bst (fun r => !opn σ r) (fun a b => decide (ONn σ b < ONn σ a)) (i + 1)))), (5, .int (nI 1)), (0, .ref (fa g 239)), (1, .int x), (3, .int (nI (ONn σ b1))), (4, .int (nI i))]) hx hb dX8_blame_89 rfl hl (by decide) rfl (fun ls hl => ?_)
                refine lv_iload hx hb dX8_blame_90 (lv_at hl 1 rfl) ?_
                refine lv_if_eq (tgt := 105) hx hb dX8_blame_92 (by decide) (fun c_92 => ?_) (fun c_92 => ?_)
                · exact absurd c_92 (by decide)
                refine lv_aload_n hx hb dX8_blame_95 rfl (lv_at hl 2 rfl) ?_
                refine fs_get E hP (k := 239) (v := .ref (fa g 248)) 11 fc8 m_10o (by omega) (by decide) (wm wl_5 (i := 8) rfl) rfl dX8_blame_96 ?_
                refine lv_iload hx hb dX8_blame_99 (lv_at hl 5 rfl) ?_
                refine fs_iald E hP (k := 248) m_10r8 (by omega) (vp_in_nI (by omega) (by omega)) dX8_blame_101 ?_
                refine fs_vi (y := (F_4 8) i) (congrArg (F_4 8) (nI_clamp (by omega))) ?_
                refine fs_vi (y := (nI (ONn σ i))) (C_7.2.2.2.1 i (by omega)) ?_
                refine lv_goto (tgt := 106) hx hb dX8_blame_102 (by decide) ?_
                refine fs_vi (y := lsI (ONn σ) (bst (fun r => !opn σ r) (fun a b => decide (ONn σ b < ONn σ a)) (i + 1))) (by rw [hnx]; rfl) ?_
                refine lv_istore_n (lv' := [(3, .int (lsI (ONn σ) (bst (fun r => !opn σ r) (fun a b => decide (ONn σ b < ONn σ a)) (i + 1)))), (2, .int (optI (bst (fun r => !opn σ r) (fun a b => decide (ONn σ b < ONn σ a)) (i + 1)))), (5, .int (nI 1)), (0, .ref (fa g 239)), (1, .int x), (4, .int (nI i))]) hx hb dX8_blame_106 rfl hl (by decide) rfl (fun ls hl => ?_)
                refine lv_iinc (v := (nI (i + 1))) (lv' := [(4, .int (nI (i + 1))), (3, .int (lsI (ONn σ) (bst (fun r => !opn σ r) (fun a b => decide (ONn σ b < ONn σ a)) (i + 1)))), (2, .int (optI (bst (fun r => !opn σ r) (fun a b => decide (ONn σ b < ONn σ a)) (i + 1)))), (5, .int (nI 1)), (0, .ref (fa g 239)), (1, .int x)]) hx hb dX8_blame_107 hl (k := 5) rfl (nI_1 _) (by decide) rfl (fun ls hl => ?_)
                refine lv_goto (tgt := 34) hx hb dX8_blame_110 (by decide) ?_
                exact ih (i + 1) ls _ (by (try dsimp only); omega) ⟨lv_sub hl [4, 5, 2, 1, 0] rfl, by omega⟩ hS
    · rw [fz_leN (by omega)] at c_20
      refine lv_bipush (v := (-6)) hx hb dX8_blame_23 (by decide) ?_
      refine fs_iret E hr hlk hP hS dX8_blame_25 ?_
      refine ⟨?_, RFAt.kk hT hH hS9 hQ M_5 K_6, (show fSame 239 249 _ _ from (fSame.tr2 fSame.rf S_8 (by omega) (by omega)))⟩
      rw [if_pos (w01.mp c_6), blR_p (by omega)]
  · have c_6 := (fb_0 p_3).mp c_6
    refine lv_bipush (v := (-2)) hx hb dX8_blame_9 (by decide) ?_
    refine fs_iret E hr hlk hP hS dX8_blame_11 ?_
    refine ⟨?_, hR, fSame.rf⟩
    rw [if_neg (fun y => c_6 (w01.mpr y))]
