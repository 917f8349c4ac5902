theorem fSame.ap {lo hi k : Nat} {ct ct1 ct2 : Nat → va_E} {e : va_E} (h : fSame lo hi ct ct1) (q : ct2 = fu ct1 k e) (h1 : lo ≤ k) (h2 : k < hi) : fSame lo hi ct ct2 := by subst q; exact h.tr (fSame.up h1 h2)
theorem cpF_sv {i : Nat} {F f : Nat → Int32} {v : Int32} (h : v = F i) : upd (cpF i F f) i v = cpF (i + 1) F f := by subst h; exact cpF_s i F f
theorem cpF_out {i j : Nat} {F f : Nat → Int32} (h : i ≤ j) : cpF i F f j = f j := by unfold cpF; rw [if_neg (by omega)]
/-- the looks of a new house, as a row of six -/
def LF (n : Nat) : Nat → Int32 := fun j => if j + 1 < n then nI (j + 1) else if j < n then nI 0 else -1
theorem RW_LF {n : Nat} (h6 : n ≤ 6) (f : Nat → Int32) : RW n (lkf (sOpen n)) (cpF 6 (LF n) f) := by
  intro p hp
  rw [cpF_in hp]
  unfold LF
  by_cases q : p < n
  · by_cases q2 : p + 1 < n
    · simp [q, q2, lkf_open h6 q, modS q]
    · simp [q, q2, lkf_open h6 q, modS q]
  · have q3 : ¬ p + 1 < n := by omega
    simp [q, q3]

set_option maxRecDepth 100000 in
set_option maxHeartbeats 4000000 in
theorem c_X1_arrange (l : Launch) (g : fG) (N : Nat) (ct : Nat → va_E) (h n : Nat) (hN : h + 25 ≤ N) (hn3 : 3 ≤ n) (hn6 : n ≤ 6) (hH : HouseSh g ct h) : Met l yX1_arrange (wsU yX1_arrange cX1_arrange 3 none) rX1_arrange (fPre g N ct [.ref (fa g h), .int (nI n)]) (fQv g N (fun ct1 => HouseAt g ct1 h (sOpen n) ∧ fSame h (h + 25) ct ct1)) 0 0 (fB g) := by
  refine fs_start (own := RX1) (lv0 := [(0, .ref (fa g h)), (1, .int (nI n))]) (by decide) rfl (Nat.le_of_ble_eq_true rfl) rfl ?_
  intro p e s m args below meth c ls E hr hlk hnm hP hl hS
  have hx := E.1.1
  have hb := E.1.2.1
  obtain ⟨⟨b0, a0, t0, hc0⟩, ⟨f1, hc1⟩, ⟨f2, hc2⟩, ⟨f3, hc3⟩, ⟨f4, hc4, hf4⟩, hc5⟩ := id hH
  refine lv_aload_n hx hb dX1_arrange_0 rfl (lv_at hl 0 rfl) ?_
  refine lv_iload_n hx hb dX1_arrange_1 rfl (lv_at hl 1 rfl) ?_
  refine fs_put E hP hS (k := h) 0 fc1 hc0 (by omega) (by decide) (wm wl_4 (i := 11) rfl) rfl rfl rfl rfl (Nat.le_of_ble_eq_true rfl) dX1_arrange_2 (fun ct_1 H locs q_2 hP hS => ?_)
  have h_3 : ct_1 h = .inr (1, [.int (nI n), .int a0, .int t0, .ref (fa g (h + 1)), .ref (fa g (h + 2)), .ref (fa g (h + 3)), .ref (fa g (h + 4))]) := by rw [q_2]; exact fu_eq _ _ _
  have h_4 : ct_1 (h + 1) = .inl (fcI g, 6, .inl f1) := by rw [q_2]; exact (fu_ne (by omega)).trans hc1
  have h_5 : ct_1 (h + 2) = .inl (fcI g, 6, .inl f2) := by rw [q_2]; exact (fu_ne (by omega)).trans hc2
  have h_6 : ct_1 (h + 3) = .inl (fcI g, 6, .inl f3) := by rw [q_2]; exact (fu_ne (by omega)).trans hc3
  have h_7 : ct_1 (h + 4) = .inl (fcR g, 20, .inr (.inr (.inr (.inr f4)))) := by rw [q_2]; exact (fu_ne (by omega)).trans hc4
  refine lv_aload_n hx hb dX1_arrange_5 rfl (lv_at hl 0 rfl) ?_
  refine lv_iconst (v := (nI 0)) hx hb dX1_arrange_6 (by decide) ?_
  refine fs_put E hP hS (k := h) 1 fc1 h_3 (by omega) (by decide) (wm wl_4 (i := 12) rfl) rfl rfl rfl rfl (Nat.le_of_ble_eq_true rfl) dX1_arrange_7 (fun ct_8 H locs q_9 hP hS => ?_)
  have h_10 : ct_8 h = .inr (1, [.int (nI n), .int (nI 0), .int t0, .ref (fa g (h + 1)), .ref (fa g (h + 2)), .ref (fa g (h + 3)), .ref (fa g (h + 4))]) := by rw [q_9]; exact fu_eq _ _ _
  have h_11 : ct_8 (h + 1) = .inl (fcI g, 6, .inl f1) := by rw [q_9]; exact (fu_ne (by omega)).trans h_4
  have h_12 : ct_8 (h + 2) = .inl (fcI g, 6, .inl f2) := by rw [q_9]; exact (fu_ne (by omega)).trans h_5
  have h_13 : ct_8 (h + 3) = .inl (fcI g, 6, .inl f3) := by rw [q_9]; exact (fu_ne (by omega)).trans h_6
  have h_14 : ct_8 (h + 4) = .inl (fcR g, 20, .inr (.inr (.inr (.inr f4)))) := by rw [q_9]; exact (fu_ne (by omega)).trans h_7
  refine lv_aload_n hx hb dX1_arrange_10 rfl (lv_at hl 0 rfl) ?_
  refine lv_iconst (v := (nI 0)) hx hb dX1_arrange_11 (by decide) ?_
  refine fs_put E hP hS (k := h) 2 fc1 h_10 (by omega) (by decide) (wm wl_4 (i := 13) rfl) rfl rfl rfl rfl (Nat.le_of_ble_eq_true rfl) dX1_arrange_12 (fun ct_15 H locs q_16 hP hS => ?_)
  have h_17 : ct_15 h = .inr (1, [.int (nI n), .int (nI 0), .int (nI 0), .ref (fa g (h + 1)), .ref (fa g (h + 2)), .ref (fa g (h + 3)), .ref (fa g (h + 4))]) := by rw [q_16]; exact fu_eq _ _ _
  have h_18 : ct_15 (h + 1) = .inl (fcI g, 6, .inl f1) := by rw [q_16]; exact (fu_ne (by omega)).trans h_11
  have h_19 : ct_15 (h + 2) = .inl (fcI g, 6, .inl f2) := by rw [q_16]; exact (fu_ne (by omega)).trans h_12
  have h_20 : ct_15 (h + 3) = .inl (fcI g, 6, .inl f3) := by rw [q_16]; exact (fu_ne (by omega)).trans h_13
  have h_21 : ct_15 (h + 4) = .inl (fcR g, 20, .inr (.inr (.inr (.inr f4)))) := by rw [q_16]; exact (fu_ne (by omega)).trans h_14
  refine lv_aload_n hx hb dX1_arrange_15 rfl (lv_at hl 0 rfl) ?_
  refine fs_get E hP (k := h) (v := .ref (fa g (h + 2))) 4 fc1 h_17 (by omega) (by decide) (wm wl_2 (i := 12) rfl) rfl dX1_arrange_16 ?_
  refine lv_iconst (v := (nI 0)) hx hb dX1_arrange_19 (by decide) ?_
  refine fs_v (va_runSN (As := [.ref (fa g (h + 2)), .int (nI 0)]) (rest := []) E.1 (c_X7_fillRow l g N ct_15 (h + 2) 6 f2 (nI 0) (by omega) (by omega) h_19) (lk_RX1_38 E.1.2.2.2.2 (E.2.1.2.1 _ (List.mem_of_getElem? (i := 29) rfl)) ⟨Nat.le_of_ble_eq_true rfl, Nat.le_of_ble_eq_true rfl⟩) (fpreS E hP hS) rfl rfl hl.1 rfl (lv_room (Nat.le_of_ble_eq_true rfl)) dX1_arrange_20 ⟨Nat.zero_le _, Nat.zero_le _⟩) hS (fun ct_22 H locs p_20 hP hS => ?_)
  have h_23 : ct_22 h = .inr (1, [.int (nI n), .int (nI 0), .int (nI 0), .ref (fa g (h + 1)), .ref (fa g (h + 2)), .ref (fa g (h + 3)), .ref (fa g (h + 4))]) := by rw [p_20]; exact (fu_ne (by omega)).trans h_17
  have h_24 : ct_22 (h + 1) = .inl (fcI g, 6, .inl f1) := by rw [p_20]; exact (fu_ne (by omega)).trans h_18
  have h_25 : ct_22 (h + 2) = .inl (fcI g, 6, .inl (cpF 6 (fun _ => (nI 0)) f2)) := by rw [p_20]; exact fu_eq _ _ _
  have h_26 : ct_22 (h + 3) = .inl (fcI g, 6, .inl f3) := by rw [p_20]; exact (fu_ne (by omega)).trans h_20
  have h_27 : ct_22 (h + 4) = .inl (fcR g, 20, .inr (.inr (.inr (.inr f4)))) := by rw [p_20]; exact (fu_ne (by omega)).trans h_21
  refine lv_aload_n hx hb dX1_arrange_23 rfl (lv_at hl 0 rfl) ?_
  refine fs_get E hP (k := h) (v := .ref (fa g (h + 3))) 5 fc1 h_23 (by omega) (by decide) (wm wl_2 (i := 13) rfl) rfl dX1_arrange_24 ?_
  refine lv_iconst (v := (nI 0)) hx hb dX1_arrange_27 (by decide) ?_
  refine fs_v (va_runSN (As := [.ref (fa g (h + 3)), .int (nI 0)]) (rest := []) E.1 (c_X7_fillRow l g N ct_22 (h + 3) 6 f3 (nI 0) (by omega) (by omega) h_26) (lk_RX1_38 E.1.2.2.2.2 (E.2.1.2.1 _ (List.mem_of_getElem? (i := 29) rfl)) ⟨Nat.le_of_ble_eq_true rfl, Nat.le_of_ble_eq_true rfl⟩) (fpreS E hP hS) rfl rfl hl.1 rfl (lv_room (Nat.le_of_ble_eq_true rfl)) dX1_arrange_28 ⟨Nat.zero_le _, Nat.zero_le _⟩) hS (fun ct_28 H locs p_28 hP hS => ?_)
  have h_29 : ct_28 h = .inr (1, [.int (nI n), .int (nI 0), .int (nI 0), .ref (fa g (h + 1)), .ref (fa g (h + 2)), .ref (fa g (h + 3)), .ref (fa g (h + 4))]) := by rw [p_28]; exact (fu_ne (by omega)).trans h_23
  have h_30 : ct_28 (h + 1) = .inl (fcI g, 6, .inl f1) := by rw [p_28]; exact (fu_ne (by omega)).trans h_24
  have h_31 : ct_28 (h + 2) = .inl (fcI g, 6, .inl (cpF 6 (fun _ => (nI 0)) f2)) := by rw [p_28]; exact (fu_ne (by omega)).trans h_25
  have h_32 : ct_28 (h + 3) = .inl (fcI g, 6, .inl (cpF 6 (fun _ => (nI 0)) f3)) := by rw [p_28]; exact fu_eq _ _ _
  have h_33 : ct_28 (h + 4) = .inl (fcR g, 20, .inr (.inr (.inr (.inr f4)))) := by rw [p_28]; exact (fu_ne (by omega)).trans h_27
  refine lv_iconst (v := (nI 0)) hx hb dX1_arrange_31 (by decide) ?_
  refine lv_istore_n (lv' := [(2, .int (nI 0)), (0, .ref (fa g h)), (1, .int (nI n))]) hx hb dX1_arrange_32 rfl hl (by decide) rfl (fun ls hl => ?_)
  refine fs_ind (g := g) (N := N) (St := Nat) (fun (i : Nat) (ct_34 : Nat → va_E) (ls : Array Slot) => lv_has ls 3 [(0, .ref (fa g h)), (1, .int (nI n)), (2, .int (nI i))] ∧ ct_34 = fu ct_28 (h + 1) (.inl (fcI g, 6, .inl (cpF i (LF n) f1))) ∧ i ≤ 6) (fun i => 6 - i) ?_ 0 _ _ ls _ ⟨lv_sub hl [1, 2, 0] rfl, by rw [cpF_0, fu_same h_30], Nat.zero_le _⟩ hP hS
  clear hl hP hS
  intro st ct_34 H ls locs hI hP hS ih
  obtain ⟨i, rfl⟩ : ∃ z, z = st := ⟨_, rfl⟩
  obtain ⟨hl, hI⟩ := hI
  have hI2 := hI.2
  have h_35 : ct_34 h = .inr (1, [.int (nI n), .int (nI 0), .int (nI 0), .ref (fa g (h + 1)), .ref (fa g (h + 2)), .ref (fa g (h + 3)), .ref (fa g (h + 4))]) := by rw [hI.1]; exact (fu_ne (by omega)).trans h_29
  have h_36 : ct_34 (h + 1) = .inl (fcI g, 6, .inl (cpF i (LF n) f1)) := by rw [hI.1]; exact fu_eq _ _ _
  have h_37 : ct_34 (h + 2) = .inl (fcI g, 6, .inl (cpF 6 (fun _ => (nI 0)) f2)) := by rw [hI.1]; exact (fu_ne (by omega)).trans h_31
  have h_38 : ct_34 (h + 3) = .inl (fcI g, 6, .inl (cpF 6 (fun _ => (nI 0)) f3)) := by rw [hI.1]; exact (fu_ne (by omega)).trans h_32
  have h_39 : ct_34 (h + 4) = .inl (fcR g, 20, .inr (.inr (.inr (.inr f4)))) := by rw [hI.1]; exact (fu_ne (by omega)).trans h_33
  refine lv_iload_n hx hb dX1_arrange_33 rfl (lv_at hl 2 rfl) ?_
  refine lv_aload_n hx hb dX1_arrange_34 rfl (lv_at hl 0 rfl) ?_
  refine fs_get E hP (k := h) (v := .ref (fa g (h + 1))) 3 fc1 h_35 (by omega) (by decide) (wm wl_2 (i := 11) rfl) rfl dX1_arrange_35 ?_
  refine fs_alenI E hP (k := (h + 1)) h_36 (by omega) dX1_arrange_38 ?_
  refine lv_icmp_ge (tgt := 83) hx hb dX1_arrange_39 (by decide) (fun c_39 => ?_) (fun c_39 => ?_)
  · rw [nI_leI (by omega) (by omega)] at c_39
    have hs9 : fSame h (h + 4) ct ct_34 := (fSame.ap (fSame.ap (fSame.ap (fSame.ap (fSame.ap (fSame.ap fSame.rf q_2 (by omega) (by omega)) q_9 (by omega) (by omega)) q_16 (by omega) (by omega)) p_20 (by omega) (by omega)) p_28 (by omega) (by omega)) hI.1 (by omega) (by omega))
    have e6 : i = 6 := by omega
    subst e6
    refine fs_vret E hr hlk hP hS dX1_arrange_83 ?_
    refine ⟨⟨?_, ⟨_, h_36, ?_⟩, ⟨_, h_37, fun p9 hp9 => ?_⟩, ⟨_, h_38, fun p9 hp9 => ?_⟩, ⟨f4, (hs9 _ (by omega)).trans hc4, hf4⟩, fun r9 hr9 => ?_⟩, hs9.wide (by omega) (by omega)⟩
    · rw [nB_open (by omega), nT_open, sOpen_z (by omega) (by omega)]; exact h_35
    · rw [nB_open (by omega)]; exact RW_LF hn6 _
    · rw [cpF_in hp9, sOpen_z (by omega) (by omega)]
    · rw [cpF_in hp9, sOpen_z (by omega) (by omega)]
    · obtain ⟨te, kd, a, b, st, h7⟩ := hc5 r9 hr9
      exact ⟨te, kd, a, b, st, (hs9 _ (by omega)).trans h7, fun q => absurd q (by rw [nT_open]; omega)⟩
  · rw [nI_leI (by omega) (by omega)] at c_39
    refine lv_aload_n hx hb dX1_arrange_42 rfl (lv_at hl 0 rfl) ?_
    refine fs_get E hP (k := h) (v := .ref (fa g (h + 1))) 3 fc1 h_35 (by omega) (by decide) (wm wl_2 (i := 11) rfl) rfl dX1_arrange_43 ?_
    refine lv_iload_n hx hb dX1_arrange_46 rfl (lv_at hl 2 rfl) ?_
    refine lv_iload_n hx hb dX1_arrange_47 rfl (lv_at hl 2 rfl) ?_
    refine lv_iconst (v := (nI 1)) hx hb dX1_arrange_48 (by decide) ?_
    refine lv_iadd hx hb dX1_arrange_49 ?_
    refine fs_vi (y := (nI (i + 1))) (nI_1 i) ?_
    refine lv_aload_n hx hb dX1_arrange_50 rfl (lv_at hl 0 rfl) ?_
    refine fs_get E hP (k := h) (v := .int (nI n)) 0 fc1 h_35 (by omega) (by decide) (wm wl_4 (i := 11) rfl) rfl dX1_arrange_51 ?_
    refine lv_icmp_ge (tgt := 63) hx hb dX1_arrange_54 (by decide) (fun c_54 => ?_) (fun c_54 => ?_)
    · rw [nI_leI (by omega) (by omega)] at c_54
      refine lv_iload_n hx hb dX1_arrange_63 rfl (lv_at hl 2 rfl) ?_
      refine lv_aload_n hx hb dX1_arrange_64 rfl (lv_at hl 0 rfl) ?_
      refine fs_get E hP (k := h) (v := .int (nI n)) 0 fc1 h_35 (by omega) (by decide) (wm wl_4 (i := 11) rfl) rfl dX1_arrange_65 ?_
      refine lv_icmp_ge (tgt := 75) hx hb dX1_arrange_68 (by decide) (fun c_68 => ?_) (fun c_68 => ?_)
      · rw [nI_leI (by omega) (by omega)] at c_68
        refine lv_iconst (v := (-1)) hx hb dX1_arrange_75 (by decide) ?_
        refine fs_iast E hP hS (k := (h + 1)) h_36 (by omega) (vp_in_nI (by omega) (by omega)) dX1_arrange_76 (fun ct_40 H locs q_41 hP hS => ?_)
        rw [nI_clamp (by omega)] at q_41
        have h_42 : ct_40 h = .inr (1, [.int (nI n), .int (nI 0), .int (nI 0), .ref (fa g (h + 1)), .ref (fa g (h + 2)), .ref (fa g (h + 3)), .ref (fa g (h + 4))]) := by rw [q_41]; exact (fu_ne (by omega)).trans h_35
        have h_43 : ct_40 (h + 1) = .inl (fcI g, 6, .inl (upd (cpF i (LF n) f1) i (-1))) := by rw [q_41]; exact fu_eq _ _ _
        have h_44 : ct_40 (h + 2) = .inl (fcI g, 6, .inl (cpF 6 (fun _ => (nI 0)) f2)) := by rw [q_41]; exact (fu_ne (by omega)).trans h_37
        have h_45 : ct_40 (h + 3) = .inl (fcI g, 6, .inl (cpF 6 (fun _ => (nI 0)) f3)) := by rw [q_41]; exact (fu_ne (by omega)).trans h_38
        have h_46 : ct_40 (h + 4) = .inl (fcR g, 20, .inr (.inr (.inr (.inr f4)))) := by rw [q_41]; exact (fu_ne (by omega)).trans h_39
        refine lv_iinc (v := (nI (i + 1))) (lv' := [(2, .int (nI (i + 1))), (0, .ref (fa g h)), (1, .int (nI n))]) hx hb dX1_arrange_77 hl (k := 2) rfl (nI_1 _) (by decide) rfl (fun ls hl => ?_)
        refine lv_goto (tgt := 33) hx hb dX1_arrange_80 (by decide) ?_
        exact ih (i + 1) _ _ ls _ (by omega) ⟨lv_sub hl [1, 2, 0] rfl, by rw [q_41, hI.1, fu_fu]; exact congrArg (fun z => fu ct_28 (h + 1) (.inl (fcI g, 6, .inl z))) (cpF_sv (by unfold LF; rw [if_neg (by omega), if_neg (by omega)])), by omega⟩ hP hS
      · rw [nI_leI (by omega) (by omega)] at c_68
        refine lv_iconst (v := (nI 0)) hx hb dX1_arrange_71 (by decide) ?_
        refine lv_goto (tgt := 76) hx hb dX1_arrange_72 (by decide) ?_
        refine fs_iast E hP hS (k := (h + 1)) h_36 (by omega) (vp_in_nI (by omega) (by omega)) dX1_arrange_76 (fun ct_47 H locs q_48 hP hS => ?_)
        rw [nI_clamp (by omega)] at q_48
        have h_49 : ct_47 h = .inr (1, [.int (nI n), .int (nI 0), .int (nI 0), .ref (fa g (h + 1)), .ref (fa g (h + 2)), .ref (fa g (h + 3)), .ref (fa g (h + 4))]) := by rw [q_48]; exact (fu_ne (by omega)).trans h_35
        have h_50 : ct_47 (h + 1) = .inl (fcI g, 6, .inl (upd (cpF i (LF n) f1) i (nI 0))) := by rw [q_48]; exact fu_eq _ _ _
        have h_51 : ct_47 (h + 2) = .inl (fcI g, 6, .inl (cpF 6 (fun _ => (nI 0)) f2)) := by rw [q_48]; exact (fu_ne (by omega)).trans h_37
        have h_52 : ct_47 (h + 3) = .inl (fcI g, 6, .inl (cpF 6 (fun _ => (nI 0)) f3)) := by rw [q_48]; exact (fu_ne (by omega)).trans h_38
        have h_53 : ct_47 (h + 4) = .inl (fcR g, 20, .inr (.inr (.inr (.inr f4)))) := by rw [q_48]; exact (fu_ne (by omega)).trans h_39
        refine lv_iinc (v := (nI (i + 1))) (lv' := [(2, .int (nI (i + 1))), (0, .ref (fa g h)), (1, .int (nI n))]) hx hb dX1_arrange_77 hl (k := 2) rfl (nI_1 _) (by decide) rfl (fun ls hl => ?_)
        refine lv_goto (tgt := 33) hx hb dX1_arrange_80 (by decide) ?_
        exact ih (i + 1) _ _ ls _ (by omega) ⟨lv_sub hl [1, 2, 0] rfl, by rw [q_48, hI.1, fu_fu]; exact congrArg (fun z => fu ct_28 (h + 1) (.inl (fcI g, 6, .inl z))) (cpF_sv (by unfold LF; rw [if_neg (by omega), if_pos (by omega)])), by omega⟩ hP hS
    · rw [nI_leI (by omega) (by omega)] at c_54
      refine lv_iload_n hx hb dX1_arrange_57 rfl (lv_at hl 2 rfl) ?_
      refine lv_iconst (v := (nI 1)) hx hb dX1_arrange_58 (by decide) ?_
      refine lv_iadd hx hb dX1_arrange_59 ?_
      refine fs_vi (y := (nI (i + 1))) (nI_1 i) ?_
      refine lv_goto (tgt := 76) hx hb dX1_arrange_60 (by decide) ?_
      refine fs_iast E hP hS (k := (h + 1)) h_36 (by omega) (vp_in_nI (by omega) (by omega)) dX1_arrange_76 (fun ct_54 H locs q_55 hP hS => ?_)
      rw [nI_clamp (by omega)] at q_55
      have h_56 : ct_54 h = .inr (1, [.int (nI n), .int (nI 0), .int (nI 0), .ref (fa g (h + 1)), .ref (fa g (h + 2)), .ref (fa g (h + 3)), .ref (fa g (h + 4))]) := by rw [q_55]; exact (fu_ne (by omega)).trans h_35
      have h_57 : ct_54 (h + 1) = .inl (fcI g, 6, .inl (upd (cpF i (LF n) f1) i (nI (i + 1)))) := by rw [q_55]; exact fu_eq _ _ _
      have h_58 : ct_54 (h + 2) = .inl (fcI g, 6, .inl (cpF 6 (fun _ => (nI 0)) f2)) := by rw [q_55]; exact (fu_ne (by omega)).trans h_37
      have h_59 : ct_54 (h + 3) = .inl (fcI g, 6, .inl (cpF 6 (fun _ => (nI 0)) f3)) := by rw [q_55]; exact (fu_ne (by omega)).trans h_38
      have h_60 : ct_54 (h + 4) = .inl (fcR g, 20, .inr (.inr (.inr (.inr f4)))) := by rw [q_55]; exact (fu_ne (by omega)).trans h_39
      refine lv_iinc (v := (nI (i + 1))) (lv' := [(2, .int (nI (i + 1))), (0, .ref (fa g h)), (1, .int (nI n))]) hx hb dX1_arrange_77 hl (k := 2) rfl (nI_1 _) (by decide) rfl (fun ls hl => ?_)
      refine lv_goto (tgt := 33) hx hb dX1_arrange_80 (by decide) ?_
      exact ih (i + 1) _ _ ls _ (by omega) ⟨lv_sub hl [1, 2, 0] rfl, by rw [q_55, hI.1, fu_fu]; exact congrArg (fun z => fu ct_28 (h + 1) (.inl (fcI g, 6, .inl z))) (cpF_sv (by unfold LF; rw [if_pos (by omega)])), by omega⟩ hP hS

set_option maxRecDepth 100000 in
set_option maxHeartbeats 4000000 in
theorem c_X1_copyFrom (l : Launch) (g : fG) (N : Nat) (ct : Nat → va_E) (h h2 : Nat) (σ : Nat → Int32) (hN : h + 25 ≤ N) (hN2 : h2 + 25 ≤ N) (hdis : h + 25 ≤ h2 ∨ h2 + 25 ≤ h) (hG : Good σ) (hH : HouseSh g ct h) (hH2 : HouseAt g ct h2 σ) : Met l yX1_copyFrom (wsU yX1_copyFrom cX1_copyFrom 5 none) rX1_copyFrom (fPre g N ct [.ref (fa g h), .ref (fa g h2)]) (fQv g N (fun ct1 => HouseAt g ct1 h σ ∧ fSame h (h + 25) ct ct1)) 0 0 (fB g) := by
  refine fs_start (own := RX1) (lv0 := [(0, .ref (fa g h)), (1, .ref (fa g h2))]) (by decide) rfl (Nat.le_of_ble_eq_true rfl) rfl ?_
  intro p e s m args below meth c ls E hr hlk hnm hP hl hS
  have hx := E.1.1
  have hb := E.1.2.1
  obtain ⟨⟨b0, a0, t0, hc0⟩, ⟨f1, hc1⟩, ⟨f2, hc2⟩, ⟨f3, hc3⟩, ⟨f4, hc4, hf4⟩, hc5⟩ := id hH
  obtain ⟨hd0, ⟨e1, hd1, he1⟩, ⟨e2, hd2, he2⟩, ⟨e3, hd3, he3⟩, ⟨e4, hd4, he4⟩, hd5⟩ := id hH2
  have hG20 := hG.k
  have hG3 := hG.n3
  have hG6 := hG.n6
  
  refine lv_aload_n hx hb dX1_copyFrom_0 rfl (lv_at hl 0 rfl) ?_
  refine lv_aload_n hx hb dX1_copyFrom_1 rfl (lv_at hl 1 rfl) ?_
  refine fs_get E hP (k := h2) (v := .int (nI (nB σ))) 0 fc1 hd0 (by omega) (by decide) (wm wl_4 (i := 11) rfl) rfl dX1_copyFrom_2 ?_
  refine fs_put E hP hS (k := h) 0 fc1 hc0 (by omega) (by decide) (wm wl_4 (i := 11) rfl) rfl rfl rfl rfl (Nat.le_of_ble_eq_true rfl) dX1_copyFrom_5 (fun ct_1 H locs q_2 hP hS => ?_)
  have h_3 : ct_1 h = .inr (1, [.int (nI (nB σ)), .int a0, .int t0, .ref (fa g (h + 1)), .ref (fa g (h + 2)), .ref (fa g (h + 3)), .ref (fa g (h + 4))]) := by rw [q_2]; exact fu_eq _ _ _
  have h_4 : ct_1 (h + 1) = .inl (fcI g, 6, .inl f1) := by rw [q_2]; exact (fu_ne (by omega)).trans hc1
  have h_5 : ct_1 (h + 2) = .inl (fcI g, 6, .inl f2) := by rw [q_2]; exact (fu_ne (by omega)).trans hc2
  have h_6 : ct_1 (h + 3) = .inl (fcI g, 6, .inl f3) := by rw [q_2]; exact (fu_ne (by omega)).trans hc3
  have h_7 : ct_1 (h + 4) = .inl (fcR g, 20, .inr (.inr (.inr (.inr f4)))) := by rw [q_2]; exact (fu_ne (by omega)).trans hc4
  have h_8 : ct_1 h2 = .inr (1, [.int (nI (nB σ)), .int (σ 2), .int (nI (nT σ)), .ref (fa g (h2 + 1)), .ref (fa g (h2 + 2)), .ref (fa g (h2 + 3)), .ref (fa g (h2 + 4))]) := by rw [q_2]; exact (fu_ne (by omega)).trans hd0
  have h_9 : ct_1 (h2 + 1) = .inl (fcI g, 6, .inl e1) := by rw [q_2]; exact (fu_ne (by omega)).trans hd1
  have h_10 : ct_1 (h2 + 2) = .inl (fcI g, 6, .inl e2) := by rw [q_2]; exact (fu_ne (by omega)).trans hd2
  have h_11 : ct_1 (h2 + 3) = .inl (fcI g, 6, .inl e3) := by rw [q_2]; exact (fu_ne (by omega)).trans hd3
  have h_12 : ct_1 (h2 + 4) = .inl (fcR g, 20, .inr (.inr (.inr (.inr e4)))) := by rw [q_2]; exact (fu_ne (by omega)).trans hd4
  refine lv_aload_n hx hb dX1_copyFrom_8 rfl (lv_at hl 0 rfl) ?_
  refine lv_aload_n hx hb dX1_copyFrom_9 rfl (lv_at hl 1 rfl) ?_
  refine fs_get E hP (k := h2) (v := .int (σ 2)) 1 fc1 h_8 (by omega) (by decide) (wm wl_4 (i := 12) rfl) rfl dX1_copyFrom_10 ?_
  refine fs_put E hP hS (k := h) 1 fc1 h_3 (by omega) (by decide) (wm wl_4 (i := 12) rfl) rfl rfl rfl rfl (Nat.le_of_ble_eq_true rfl) dX1_copyFrom_13 (fun ct_13 H locs q_14 hP hS => ?_)
  have h_15 : ct_13 h = .inr (1, [.int (nI (nB σ)), .int (σ 2), .int t0, .ref (fa g (h + 1)), .ref (fa g (h + 2)), .ref (fa g (h + 3)), .ref (fa g (h + 4))]) := by rw [q_14]; exact fu_eq _ _ _
  have h_16 : ct_13 (h + 1) = .inl (fcI g, 6, .inl f1) := by rw [q_14]; exact (fu_ne (by omega)).trans h_4
  have h_17 : ct_13 (h + 2) = .inl (fcI g, 6, .inl f2) := by rw [q_14]; exact (fu_ne (by omega)).trans h_5
  have h_18 : ct_13 (h + 3) = .inl (fcI g, 6, .inl f3) := by rw [q_14]; exact (fu_ne (by omega)).trans h_6
  have h_19 : ct_13 (h + 4) = .inl (fcR g, 20, .inr (.inr (.inr (.inr f4)))) := by rw [q_14]; exact (fu_ne (by omega)).trans h_7
  have h_20 : ct_13 h2 = .inr (1, [.int (nI (nB σ)), .int (σ 2), .int (nI (nT σ)), .ref (fa g (h2 + 1)), .ref (fa g (h2 + 2)), .ref (fa g (h2 + 3)), .ref (fa g (h2 + 4))]) := by rw [q_14]; exact (fu_ne (by omega)).trans h_8
  have h_21 : ct_13 (h2 + 1) = .inl (fcI g, 6, .inl e1) := by rw [q_14]; exact (fu_ne (by omega)).trans h_9
  have h_22 : ct_13 (h2 + 2) = .inl (fcI g, 6, .inl e2) := by rw [q_14]; exact (fu_ne (by omega)).trans h_10
  have h_23 : ct_13 (h2 + 3) = .inl (fcI g, 6, .inl e3) := by rw [q_14]; exact (fu_ne (by omega)).trans h_11
  have h_24 : ct_13 (h2 + 4) = .inl (fcR g, 20, .inr (.inr (.inr (.inr e4)))) := by rw [q_14]; exact (fu_ne (by omega)).trans h_12
  refine lv_aload_n hx hb dX1_copyFrom_16 rfl (lv_at hl 0 rfl) ?_
  refine lv_aload_n hx hb dX1_copyFrom_17 rfl (lv_at hl 1 rfl) ?_
  refine fs_get E hP (k := h2) (v := .int (nI (nT σ))) 2 fc1 h_20 (by omega) (by decide) (wm wl_4 (i := 13) rfl) rfl dX1_copyFrom_18 ?_
  refine fs_put E hP hS (k := h) 2 fc1 h_15 (by omega) (by decide) (wm wl_4 (i := 13) rfl) rfl rfl rfl rfl (Nat.le_of_ble_eq_true rfl) dX1_copyFrom_21 (fun ct_25 H locs q_26 hP hS => ?_)
  have h_27 : ct_25 h = .inr (1, [.int (nI (nB σ)), .int (σ 2), .int (nI (nT σ)), .ref (fa g (h + 1)), .ref (fa g (h + 2)), .ref (fa g (h + 3)), .ref (fa g (h + 4))]) := by rw [q_26]; exact fu_eq _ _ _
  have h_28 : ct_25 (h + 1) = .inl (fcI g, 6, .inl f1) := by rw [q_26]; exact (fu_ne (by omega)).trans h_16
  have h_29 : ct_25 (h + 2) = .inl (fcI g, 6, .inl f2) := by rw [q_26]; exact (fu_ne (by omega)).trans h_17
  have h_30 : ct_25 (h + 3) = .inl (fcI g, 6, .inl f3) := by rw [q_26]; exact (fu_ne (by omega)).trans h_18
  have h_31 : ct_25 (h + 4) = .inl (fcR g, 20, .inr (.inr (.inr (.inr f4)))) := by rw [q_26]; exact (fu_ne (by omega)).trans h_19
  have h_32 : ct_25 h2 = .inr (1, [.int (nI (nB σ)), .int (σ 2), .int (nI (nT σ)), .ref (fa g (h2 + 1)), .ref (fa g (h2 + 2)), .ref (fa g (h2 + 3)), .ref (fa g (h2 + 4))]) := by rw [q_26]; exact (fu_ne (by omega)).trans h_20
  have h_33 : ct_25 (h2 + 1) = .inl (fcI g, 6, .inl e1) := by rw [q_26]; exact (fu_ne (by omega)).trans h_21
  have h_34 : ct_25 (h2 + 2) = .inl (fcI g, 6, .inl e2) := by rw [q_26]; exact (fu_ne (by omega)).trans h_22
  have h_35 : ct_25 (h2 + 3) = .inl (fcI g, 6, .inl e3) := by rw [q_26]; exact (fu_ne (by omega)).trans h_23
  have h_36 : ct_25 (h2 + 4) = .inl (fcR g, 20, .inr (.inr (.inr (.inr e4)))) := by rw [q_26]; exact (fu_ne (by omega)).trans h_24
  refine lv_aload_n hx hb dX1_copyFrom_24 rfl (lv_at hl 1 rfl) ?_
  refine fs_get E hP (k := h2) (v := .ref (fa g (h2 + 1))) 3 fc1 h_32 (by omega) (by decide) (wm wl_2 (i := 11) rfl) rfl dX1_copyFrom_25 ?_
  refine lv_aload_n hx hb dX1_copyFrom_28 rfl (lv_at hl 0 rfl) ?_
  refine fs_get E hP (k := h) (v := .ref (fa g (h + 1))) 3 fc1 h_27 (by omega) (by decide) (wm wl_2 (i := 11) rfl) rfl dX1_copyFrom_29 ?_
  refine fs_v (va_runSN (As := [.ref (fa g (h2 + 1)), .ref (fa g (h + 1))]) (rest := []) E.1 (c_X7_copyRow l g N ct_25 (h2 + 1) (h + 1) 6 e1 f1 (by omega) (by omega) (by omega) (by omega) h_33 h_28) (lk_RX1_42 E.1.2.2.2.2 (E.2.1.2.1 _ (List.mem_of_getElem? (i := 30) rfl)) ⟨Nat.le_of_ble_eq_true rfl, Nat.le_of_ble_eq_true rfl⟩) (fpreS E hP hS) rfl rfl hl.1 rfl (lv_room (Nat.le_of_ble_eq_true rfl)) dX1_copyFrom_32 ⟨Nat.zero_le _, Nat.zero_le _⟩) hS (fun ct_37 H locs p_32 hP hS => ?_)
  have h_38 : ct_37 h = .inr (1, [.int (nI (nB σ)), .int (σ 2), .int (nI (nT σ)), .ref (fa g (h + 1)), .ref (fa g (h + 2)), .ref (fa g (h + 3)), .ref (fa g (h + 4))]) := by rw [p_32]; exact (fu_ne (by omega)).trans h_27
  have h_39 : ct_37 (h + 1) = .inl (fcI g, 6, .inl (cpF 6 e1 f1)) := by rw [p_32]; exact fu_eq _ _ _
  have h_40 : ct_37 (h + 2) = .inl (fcI g, 6, .inl f2) := by rw [p_32]; exact (fu_ne (by omega)).trans h_29
  have h_41 : ct_37 (h + 3) = .inl (fcI g, 6, .inl f3) := by rw [p_32]; exact (fu_ne (by omega)).trans h_30
  have h_42 : ct_37 (h + 4) = .inl (fcR g, 20, .inr (.inr (.inr (.inr f4)))) := by rw [p_32]; exact (fu_ne (by omega)).trans h_31
  have h_43 : ct_37 h2 = .inr (1, [.int (nI (nB σ)), .int (σ 2), .int (nI (nT σ)), .ref (fa g (h2 + 1)), .ref (fa g (h2 + 2)), .ref (fa g (h2 + 3)), .ref (fa g (h2 + 4))]) := by rw [p_32]; exact (fu_ne (by omega)).trans h_32
  have h_44 : ct_37 (h2 + 1) = .inl (fcI g, 6, .inl e1) := by rw [p_32]; exact (fu_ne (by omega)).trans h_33
  have h_45 : ct_37 (h2 + 2) = .inl (fcI g, 6, .inl e2) := by rw [p_32]; exact (fu_ne (by omega)).trans h_34
  have h_46 : ct_37 (h2 + 3) = .inl (fcI g, 6, .inl e3) := by rw [p_32]; exact (fu_ne (by omega)).trans h_35
  have h_47 : ct_37 (h2 + 4) = .inl (fcR g, 20, .inr (.inr (.inr (.inr e4)))) := by rw [p_32]; exact (fu_ne (by omega)).trans h_36
  refine lv_aload_n hx hb dX1_copyFrom_35 rfl (lv_at hl 1 rfl) ?_
  refine fs_get E hP (k := h2) (v := .ref (fa g (h2 + 2))) 4 fc1 h_43 (by omega) (by decide) (wm wl_2 (i := 12) rfl) rfl dX1_copyFrom_36 ?_
  refine lv_aload_n hx hb dX1_copyFrom_39 rfl (lv_at hl 0 rfl) ?_
  refine fs_get E hP (k := h) (v := .ref (fa g (h + 2))) 4 fc1 h_38 (by omega) (by decide) (wm wl_2 (i := 12) rfl) rfl dX1_copyFrom_40 ?_
  refine fs_v (va_runSN (As := [.ref (fa g (h2 + 2)), .ref (fa g (h + 2))]) (rest := []) E.1 (c_X7_copyRow l g N ct_37 (h2 + 2) (h + 2) 6 e2 f2 (by omega) (by omega) (by omega) (by omega) h_45 h_40) (lk_RX1_42 E.1.2.2.2.2 (E.2.1.2.1 _ (List.mem_of_getElem? (i := 30) rfl)) ⟨Nat.le_of_ble_eq_true rfl, Nat.le_of_ble_eq_true rfl⟩) (fpreS E hP hS) rfl rfl hl.1 rfl (lv_room (Nat.le_of_ble_eq_true rfl)) dX1_copyFrom_43 ⟨Nat.zero_le _, Nat.zero_le _⟩) hS (fun ct_48 H locs p_43 hP hS => ?_)
  have h_49 : ct_48 h = .inr (1, [.int (nI (nB σ)), .int (σ 2), .int (nI (nT σ)), .ref (fa g (h + 1)), .ref (fa g (h + 2)), .ref (fa g (h + 3)), .ref (fa g (h + 4))]) := by rw [p_43]; exact (fu_ne (by omega)).trans h_38
  have h_50 : ct_48 (h + 1) = .inl (fcI g, 6, .inl (cpF 6 e1 f1)) := by rw [p_43]; exact (fu_ne (by omega)).trans h_39
  have h_51 : ct_48 (h + 2) = .inl (fcI g, 6, .inl (cpF 6 e2 f2)) := by rw [p_43]; exact fu_eq _ _ _
  have h_52 : ct_48 (h + 3) = .inl (fcI g, 6, .inl f3) := by rw [p_43]; exact (fu_ne (by omega)).trans h_41
  have h_53 : ct_48 (h + 4) = .inl (fcR g, 20, .inr (.inr (.inr (.inr f4)))) := by rw [p_43]; exact (fu_ne (by omega)).trans h_42
  have h_54 : ct_48 h2 = .inr (1, [.int (nI (nB σ)), .int (σ 2), .int (nI (nT σ)), .ref (fa g (h2 + 1)), .ref (fa g (h2 + 2)), .ref (fa g (h2 + 3)), .ref (fa g (h2 + 4))]) := by rw [p_43]; exact (fu_ne (by omega)).trans h_43
  have h_55 : ct_48 (h2 + 1) = .inl (fcI g, 6, .inl e1) := by rw [p_43]; exact (fu_ne (by omega)).trans h_44
  have h_56 : ct_48 (h2 + 2) = .inl (fcI g, 6, .inl e2) := by rw [p_43]; exact (fu_ne (by omega)).trans h_45
  have h_57 : ct_48 (h2 + 3) = .inl (fcI g, 6, .inl e3) := by rw [p_43]; exact (fu_ne (by omega)).trans h_46
  have h_58 : ct_48 (h2 + 4) = .inl (fcR g, 20, .inr (.inr (.inr (.inr e4)))) := by rw [p_43]; exact (fu_ne (by omega)).trans h_47
  refine lv_aload_n hx hb dX1_copyFrom_46 rfl (lv_at hl 1 rfl) ?_
  refine fs_get E hP (k := h2) (v := .ref (fa g (h2 + 3))) 5 fc1 h_54 (by omega) (by decide) (wm wl_2 (i := 13) rfl) rfl dX1_copyFrom_47 ?_
  refine lv_aload_n hx hb dX1_copyFrom_50 rfl (lv_at hl 0 rfl) ?_
  refine fs_get E hP (k := h) (v := .ref (fa g (h + 3))) 5 fc1 h_49 (by omega) (by decide) (wm wl_2 (i := 13) rfl) rfl dX1_copyFrom_51 ?_
  refine fs_v (va_runSN (As := [.ref (fa g (h2 + 3)), .ref (fa g (h + 3))]) (rest := []) E.1 (c_X7_copyRow l g N ct_48 (h2 + 3) (h + 3) 6 e3 f3 (by omega) (by omega) (by omega) (by omega) h_57 h_52) (lk_RX1_42 E.1.2.2.2.2 (E.2.1.2.1 _ (List.mem_of_getElem? (i := 30) rfl)) ⟨Nat.le_of_ble_eq_true rfl, Nat.le_of_ble_eq_true rfl⟩) (fpreS E hP hS) rfl rfl hl.1 rfl (lv_room (Nat.le_of_ble_eq_true rfl)) dX1_copyFrom_54 ⟨Nat.zero_le _, Nat.zero_le _⟩) hS (fun ct_59 H locs p_54 hP hS => ?_)
  have h_60 : ct_59 h = .inr (1, [.int (nI (nB σ)), .int (σ 2), .int (nI (nT σ)), .ref (fa g (h + 1)), .ref (fa g (h + 2)), .ref (fa g (h + 3)), .ref (fa g (h + 4))]) := by rw [p_54]; exact (fu_ne (by omega)).trans h_49
  have h_61 : ct_59 (h + 1) = .inl (fcI g, 6, .inl (cpF 6 e1 f1)) := by rw [p_54]; exact (fu_ne (by omega)).trans h_50
  have h_62 : ct_59 (h + 2) = .inl (fcI g, 6, .inl (cpF 6 e2 f2)) := by rw [p_54]; exact (fu_ne (by omega)).trans h_51
  have h_63 : ct_59 (h + 3) = .inl (fcI g, 6, .inl (cpF 6 e3 f3)) := by rw [p_54]; exact fu_eq _ _ _
  have h_64 : ct_59 (h + 4) = .inl (fcR g, 20, .inr (.inr (.inr (.inr f4)))) := by rw [p_54]; exact (fu_ne (by omega)).trans h_53
  have h_65 : ct_59 h2 = .inr (1, [.int (nI (nB σ)), .int (σ 2), .int (nI (nT σ)), .ref (fa g (h2 + 1)), .ref (fa g (h2 + 2)), .ref (fa g (h2 + 3)), .ref (fa g (h2 + 4))]) := by rw [p_54]; exact (fu_ne (by omega)).trans h_54
  have h_66 : ct_59 (h2 + 1) = .inl (fcI g, 6, .inl e1) := by rw [p_54]; exact (fu_ne (by omega)).trans h_55
  have h_67 : ct_59 (h2 + 2) = .inl (fcI g, 6, .inl e2) := by rw [p_54]; exact (fu_ne (by omega)).trans h_56
  have h_68 : ct_59 (h2 + 3) = .inl (fcI g, 6, .inl e3) := by rw [p_54]; exact (fu_ne (by omega)).trans h_57
  have h_69 : ct_59 (h2 + 4) = .inl (fcR g, 20, .inr (.inr (.inr (.inr e4)))) := by rw [p_54]; exact (fu_ne (by omega)).trans h_58
  refine lv_iconst (v := (nI 0)) hx hb dX1_copyFrom_57 (by decide) ?_
  refine lv_istore_n (lv' := [(2, .int (nI 0)), (0, .ref (fa g h)), (1, .ref (fa g h2))]) hx hb dX1_copyFrom_58 rfl hl (by decide) rfl (fun ls hl => ?_)
  refine fs_ind (g := g) (N := N) (St := Nat) (fun (i : Nat) (ct_70 : Nat → va_E) (ls : Array Slot) => lv_has ls 5 [(0, .ref (fa g h)), (1, .ref (fa g h2)), (2, .int (nI i))] ∧ fSame (h + 5) (h + 25) ct_59 ct_70 ∧ i ≤ nT σ ∧ (∀ r, r < i → ct_70 (h + 5 + r) = .inr (3, [.int (nI (rk σ r 0)), .int (nI (rk σ r 1)), .int (nI (rk σ r 2)), .int (nI (rk σ r 3)), .int (nI (rk σ r 4))])) ∧ ∀ r, i ≤ r → r < 20 → ct_70 (h + 5 + r) = ct_59 (h + 5 + r)) (fun (i : Nat) => nT σ - i) ?_ 0 _ _ ls _ ⟨lv_sub hl [1, 2, 0] rfl, fSame.rf, Nat.zero_le _, fun r8 h8 => absurd h8 (by omega), fun _ _ _ => rfl⟩ hP hS
  clear hl hP hS
  intro st ct_70 H ls locs hI hP hS ih
  obtain ⟨i, rfl⟩ : ∃ z, z = st := ⟨_, rfl⟩
  obtain ⟨hl, hI⟩ := hI
  have hs0 : fSame h (h + 4) ct ct_59 := (fSame.ap (fSame.ap (fSame.ap (fSame.ap (fSame.ap (fSame.ap fSame.rf q_2 (by omega) (by omega)) q_14 (by omega) (by omega)) q_26 (by omega) (by omega)) p_32 (by omega) (by omega)) p_43 (by omega) (by omega)) p_54 (by omega) (by omega))
  have hsA : fSame h (h + 25) ct ct_70 := (hs0.wide (by omega) (by omega)).tr (hI.1.wide (by omega) (by omega))
  have hI2 := hI.2.1
  have h_71 : ct_70 h = .inr (1, [.int (nI (nB σ)), .int (σ 2), .int (nI (nT σ)), .ref (fa g (h + 1)), .ref (fa g (h + 2)), .ref (fa g (h + 3)), .ref (fa g (h + 4))]) := (hI.1 _ (by omega)).trans h_60
  have h_72 : ct_70 (h + 1) = .inl (fcI g, 6, .inl (cpF 6 e1 f1)) := (hI.1 _ (by omega)).trans h_61
  have h_73 : ct_70 (h + 2) = .inl (fcI g, 6, .inl (cpF 6 e2 f2)) := (hI.1 _ (by omega)).trans h_62
  have h_74 : ct_70 (h + 3) = .inl (fcI g, 6, .inl (cpF 6 e3 f3)) := (hI.1 _ (by omega)).trans h_63
  have h_75 : ct_70 (h + 4) = .inl (fcR g, 20, .inr (.inr (.inr (.inr f4)))) := (hI.1 _ (by omega)).trans h_64
  have h_76 : ct_70 h2 = .inr (1, [.int (nI (nB σ)), .int (σ 2), .int (nI (nT σ)), .ref (fa g (h2 + 1)), .ref (fa g (h2 + 2)), .ref (fa g (h2 + 3)), .ref (fa g (h2 + 4))]) := (hI.1 _ (by omega)).trans h_65
  have h_77 : ct_70 (h2 + 1) = .inl (fcI g, 6, .inl e1) := (hI.1 _ (by omega)).trans h_66
  have h_78 : ct_70 (h2 + 2) = .inl (fcI g, 6, .inl e2) := (hI.1 _ (by omega)).trans h_67
  have h_79 : ct_70 (h2 + 3) = .inl (fcI g, 6, .inl e3) := (hI.1 _ (by omega)).trans h_68
  have h_80 : ct_70 (h2 + 4) = .inl (fcR g, 20, .inr (.inr (.inr (.inr e4)))) := (hI.1 _ (by omega)).trans h_69
  skip
  refine lv_iload_n hx hb dX1_copyFrom_59 rfl (lv_at hl 2 rfl) ?_
  refine lv_aload_n hx hb dX1_copyFrom_60 rfl (lv_at hl 0 rfl) ?_
  refine fs_get E hP (k := h) (v := .int (nI (nT σ))) 2 fc1 h_71 (by omega) (by decide) (wm wl_4 (i := 13) rfl) rfl dX1_copyFrom_61 ?_
  refine lv_icmp_ge (tgt := 101) hx hb dX1_copyFrom_64 (by decide) (fun c_64 => ?_) (fun c_64 => ?_)
  · rw [nI_leI (by omega) (by omega)] at c_64
    refine fs_vret E hr hlk hP hS dX1_copyFrom_101 ?_
    have e9 : i = nT σ := by omega
    subst e9
    refine ⟨⟨h_71, ⟨_, h_72, fun p9 hp9 => ?_⟩, ⟨_, h_73, fun p9 hp9 => ?_⟩, ⟨_, h_74, fun p9 hp9 => ?_⟩, ⟨f4, h_75, hf4⟩, fun r9 hr9 => ?_⟩, hsA⟩
    · rw [cpF_in hp9]; exact he1 p9 hp9
    · rw [cpF_in hp9]; exact he2 p9 hp9
    · rw [cpF_in hp9]; exact he3 p9 hp9
    · rcases Nat.lt_or_ge r9 (nT σ) with q9 | q9
      · exact ⟨_, _, _, _, _, hI.2.2.1 r9 q9, fun _ => ⟨rfl, rfl, rfl, rfl, rfl⟩⟩
      · obtain ⟨te, kd, a, b, st, h7⟩ := hc5 r9 hr9
        exact ⟨te, kd, a, b, st, (hI.2.2.2 r9 q9 hr9).trans ((hs0 _ (by omega)).trans h7), fun q => absurd q (by omega)⟩
  · rw [nI_leI (by omega) (by omega)] at c_64
    refine lv_aload_n hx hb dX1_copyFrom_67 rfl (lv_at hl 0 rfl) ?_
    refine lv_iload_n hx hb dX1_copyFrom_68 rfl (lv_at hl 2 rfl) ?_
    refine fs_pr (va_runV (As := [.int (nI i)]) (rest := []) E.1 (c_X1_rumourAt l g N ct_70 h (nT σ) (nI (nB σ)) (σ 2) f4 (nI i) (by omega) (by omega) h_71 h_75 hf4) (lk_RX1_46 E.1.2.2.2.2 ⟨Nat.le_of_ble_eq_true rfl, Nat.le_of_ble_eq_true rfl⟩) (fpreV E hP hS fc1 h_71 (by omega)) rfl rfl hl.1 rfl (lv_room (Nat.le_of_ble_eq_true rfl)) dX1_copyFrom_69 ⟨Nat.zero_le _, Nat.zero_le _⟩) hS (fun r_69 locs p_69 hS => ?_)
    refine fs_vv (y := .ref (fa g (h + 5 + i))) (rum_in p_69 (by omega) hG20) ?_
    clear p_69
    obtain ⟨te8, kd8, a8, b8, st8, hr8⟩ := hc5 i (by omega)
    have hr8b : ct_70 (h + 5 + i) = .inr (3, [.int te8, .int kd8, .int a8, .int b8, .int st8]) := (hI.2.2.2 i (Nat.le_refl _) (by omega)).trans ((hs0 _ (by omega)).trans hr8)
    refine lv_astore_n (lv' := [(3, .ref (fa g (h + 5 + i))), (0, .ref (fa g h)), (1, .ref (fa g h2)), (2, .int (nI i))]) hx hb dX1_copyFrom_72 rfl hl (by decide) rfl (fun ls hl => ?_)
    refine lv_aload_n hx hb dX1_copyFrom_73 rfl (lv_at hl 2 rfl) ?_
    refine lv_iload_n hx hb dX1_copyFrom_74 rfl (lv_at hl 3 rfl) ?_
    refine fs_pr (va_runV (As := [.int (nI i)]) (rest := []) E.1 (c_X1_rumourAt l g N ct_70 h2 (nT σ) (nI (nB σ)) (σ 2) e4 (nI i) (by omega) (by omega) h_76 h_80 he4) (lk_RX1_46 E.1.2.2.2.2 ⟨Nat.le_of_ble_eq_true rfl, Nat.le_of_ble_eq_true rfl⟩) (fpreV E hP hS fc1 h_76 (by omega)) rfl rfl hl.1 rfl (lv_room (Nat.le_of_ble_eq_true rfl)) dX1_copyFrom_75 ⟨Nat.zero_le _, Nat.zero_le _⟩) hS (fun r_75 locs p_75 hS => ?_)
    refine fs_vv (y := .ref (fa g (h2 + 5 + i))) (rum_in p_75 (by omega) hG20) ?_
    clear p_75
    obtain ⟨te9, kd9, a9, b9, st9, hr9, hr9b⟩ := hd5 i (by omega)
    obtain ⟨rfl, rfl, rfl, rfl, rfl⟩ := hr9b (by omega)
    have hr9c : ct_70 (h2 + 5 + i) = .inr (3, [.int (nI (rk σ i 0)), .int (nI (rk σ i 1)), .int (nI (rk σ i 2)), .int (nI (rk σ i 3)), .int (nI (rk σ i 4))]) := (hsA _ (by omega)).trans hr9
    refine lv_astore (lv' := [(4, .ref (fa g (h2 + 5 + i))), (3, .ref (fa g (h + 5 + i))), (0, .ref (fa g h)), (1, .ref (fa g h2)), (2, .int (nI i))]) hx hb dX1_copyFrom_78 hl (by decide) rfl (fun ls hl => ?_)
    refine lv_aload_n hx hb dX1_copyFrom_80 rfl (lv_at hl 1 rfl) ?_
    refine lv_ifnull hx hb dX1_copyFrom_81 ?_
    refine lv_aload hx hb dX1_copyFrom_84 (lv_at hl 0 rfl) ?_
    refine lv_ifnull hx hb dX1_copyFrom_86 ?_
    refine lv_aload_n hx hb dX1_copyFrom_89 rfl (lv_at hl 1 rfl) ?_
    refine lv_aload hx hb dX1_copyFrom_90 (lv_at hl 0 rfl) ?_
    refine fs_v (va_runV (As := [.ref (fa g (h2 + 5 + i))]) (rest := []) E.1 (c_X3_copyFrom l g N ct_70 (h + 5 + i) (h2 + 5 + i) te8 kd8 a8 b8 st8 (nI (rk σ i 0)) (nI (rk σ i 1)) (nI (rk σ i 2)) (nI (rk σ i 3)) (nI (rk σ i 4)) (by omega) (by omega) (by omega) hr8b hr9c) (lk_RX1_50 E.1.2.2.2.2 ⟨Nat.le_of_ble_eq_true rfl, Nat.le_of_ble_eq_true rfl⟩) (fpreV E hP hS fc3 hr8b (by omega)) rfl rfl hl.1 rfl (lv_room (Nat.le_of_ble_eq_true rfl)) dX1_copyFrom_92 ⟨Nat.zero_le _, Nat.zero_le _⟩) hS (fun ct_81 H locs p_92 hP hS => ?_)
    have h_82 : ct_81 h = .inr (1, [.int (nI (nB σ)), .int (σ 2), .int (nI (nT σ)), .ref (fa g (h + 1)), .ref (fa g (h + 2)), .ref (fa g (h + 3)), .ref (fa g (h + 4))]) := by rw [p_92]; exact (fu_ne (by omega)).trans h_71
    have h_83 : ct_81 (h + 1) = .inl (fcI g, 6, .inl (cpF 6 e1 f1)) := by rw [p_92]; exact (fu_ne (by omega)).trans h_72
    have h_84 : ct_81 (h + 2) = .inl (fcI g, 6, .inl (cpF 6 e2 f2)) := by rw [p_92]; exact (fu_ne (by omega)).trans h_73
    have h_85 : ct_81 (h + 3) = .inl (fcI g, 6, .inl (cpF 6 e3 f3)) := by rw [p_92]; exact (fu_ne (by omega)).trans h_74
    have h_86 : ct_81 (h + 4) = .inl (fcR g, 20, .inr (.inr (.inr (.inr f4)))) := by rw [p_92]; exact (fu_ne (by omega)).trans h_75
    have h_87 : ct_81 h2 = .inr (1, [.int (nI (nB σ)), .int (σ 2), .int (nI (nT σ)), .ref (fa g (h2 + 1)), .ref (fa g (h2 + 2)), .ref (fa g (h2 + 3)), .ref (fa g (h2 + 4))]) := by rw [p_92]; exact (fu_ne (by omega)).trans h_76
    have h_88 : ct_81 (h2 + 1) = .inl (fcI g, 6, .inl e1) := by rw [p_92]; exact (fu_ne (by omega)).trans h_77
    have h_89 : ct_81 (h2 + 2) = .inl (fcI g, 6, .inl e2) := by rw [p_92]; exact (fu_ne (by omega)).trans h_78
    have h_90 : ct_81 (h2 + 3) = .inl (fcI g, 6, .inl e3) := by rw [p_92]; exact (fu_ne (by omega)).trans h_79
    have h_91 : ct_81 (h2 + 4) = .inl (fcR g, 20, .inr (.inr (.inr (.inr e4)))) := by rw [p_92]; exact (fu_ne (by omega)).trans h_80
    have h_92 : ct_81 (h + 5 + i) = .inr (3, [.int (nI (rk σ i 0)), .int (nI (rk σ i 1)), .int (nI (rk σ i 2)), .int (nI (rk σ i 3)), .int (nI (rk σ i 4))]) := by rw [p_92]; exact fu_eq _ _ _
    have h_93 : ct_81 (h2 + 5 + i) = .inr (3, [.int (nI (rk σ i 0)), .int (nI (rk σ i 1)), .int (nI (rk σ i 2)), .int (nI (rk σ i 3)), .int (nI (rk σ i 4))]) := by rw [p_92]; exact (fu_ne (by omega)).trans hr9c
    refine lv_iinc (v := (nI (i + 1))) (lv' := [(2, .int (nI (i + 1))), (4, .ref (fa g (h2 + 5 + i))), (3, .ref (fa g (h + 5 + i))), (0, .ref (fa g h)), (1, .ref (fa g h2))]) hx hb dX1_copyFrom_95 hl (k := 4) rfl (nI_1 _) (by decide) rfl (fun ls hl => ?_)
    refine lv_goto (tgt := 59) hx hb dX1_copyFrom_98 (by decide) ?_
    exact ih (i + 1) _ _ ls _ (by (try dsimp only); omega) ⟨lv_sub hl [3, 4, 0] rfl, hI.1.ap p_92 (by omega) (by omega), by omega, fun r8 h8 => (Nat.lt_or_ge r8 i).elim (fun q9 => by rw [p_92]; exact (fu_ne (by omega)).trans (hI.2.2.1 r8 q9)) (fun q9 => by rw [p_92, show r8 = i by omega]; exact fu_eq _ _ _), fun r8 h8 h8b => by rw [p_92]; exact (fu_ne (by omega)).trans (hI.2.2.2 r8 (by omega) h8b)⟩ hP hS

set_option maxRecDepth 100000 in
set_option maxHeartbeats 4000000 in
theorem c_X1_addRumour (l : Launch) (g : fG) (N : Nat) (ct : Nat → va_E) (h : Nat) (σ : Nat → Int32) (te kd a b : Nat) (hN : h + 25 ≤ N) (hG : Good σ) (hk20 : nT σ < 20) (hte : te < nB σ) (hok : okk (nB σ) kd a b) (hH : HouseAt g ct h σ) : Met l yX1_addRumour (wsU yX1_addRumour cX1_addRumour 6 none) rX1_addRumour (fPre g N ct [.ref (fa g h), .int (nI te), .int (nI kd), .int (nI a), .int (nI b)]) (fQv g N (fun ct1 => HouseAt g ct1 h (sTell σ te kd a b) ∧ fSame h (h + 25) ct ct1)) 0 0 (fB g) := by
  refine fs_start (own := RX1) (lv0 := [(0, .ref (fa g h)), (1, .int (nI te)), (2, .int (nI kd)), (3, .int (nI a)), (4, .int (nI b))]) (by decide) rfl (Nat.le_of_ble_eq_true rfl) rfl ?_
  intro p e s m args below meth c ls E hr hlk hnm hP hl hS
  have hx := E.1.1
  have hb := E.1.2.1
  have hG20 := hG.k
  have hG3 := hG.n3
  have hG6 := hG.n6
  obtain ⟨hok1, hok2, hok3⟩ := hok.lt hG6
  obtain ⟨hc0, ⟨f1, hc1, hf1⟩, ⟨f2, hc2, hf2⟩, ⟨f3, hc3, hf3⟩, ⟨f4, hc4, hf4⟩, hc5⟩ := id hH
  refine lv_aload_n hx hb dX1_addRumour_0 rfl (lv_at hl 0 rfl) ?_
  refine lv_iconst (v := (nI 1)) hx hb dX1_addRumour_1 (by decide) ?_
  refine fs_pi (va_runV (As := [.int (nI 1)]) (rest := []) E.1 (c_X1_hasRoomFor l g N ct h (nB σ) (nT σ) (σ 2) (h + 1) (h + 2) (h + 3) (h + 4) (by omega) hc0 1 (by omega) (by omega)) (lk_RX1_58 E.1.2.2.2.2 ⟨Nat.le_of_ble_eq_true rfl, Nat.le_of_ble_eq_true rfl⟩) (fpreV E hP hS fc1 hc0 (by omega)) rfl rfl hl.1 rfl (lv_room (Nat.le_of_ble_eq_true rfl)) dX1_addRumour_2 ⟨Nat.zero_le _, Nat.zero_le _⟩) hS (fun r_2 locs p_2 hS => ?_)
  refine lv_if_ne (tgt := 9) hx hb dX1_addRumour_5 (by decide) (fun c_5 => ?_) (fun c_5 => ?_)
  · have c_5 := (fb_1 p_2).mp c_5
    refine lv_aload_n hx hb dX1_addRumour_9 rfl (lv_at hl 0 rfl) ?_
    refine lv_dup hx hb dX1_addRumour_10 rfl ?_
    refine fs_get E hP (k := h) (v := .int (nI (nT σ))) 2 fc1 hc0 (by omega) (by decide) (wm wl_4 (i := 13) rfl) rfl dX1_addRumour_11 ?_
    refine lv_iconst (v := (nI 1)) hx hb dX1_addRumour_14 (by decide) ?_
    refine lv_iadd hx hb dX1_addRumour_15 ?_
    refine fs_vi (y := (nI (nT σ + 1))) (nI_1 _) ?_
    refine fs_put E hP hS (k := h) 2 fc1 hc0 (by omega) (by decide) (wm wl_4 (i := 13) rfl) rfl rfl rfl rfl (Nat.le_of_ble_eq_true rfl) dX1_addRumour_16 (fun ct_1 H locs q_2 hP hS => ?_)
    have h_3 : ct_1 h = .inr (1, [.int (nI (nB σ)), .int (σ 2), .int (nI (nT σ + 1)), .ref (fa g (h + 1)), .ref (fa g (h + 2)), .ref (fa g (h + 3)), .ref (fa g (h + 4))]) := by rw [q_2]; exact fu_eq _ _ _
    have h_4 : ct_1 (h + 1) = .inl (fcI g, 6, .inl f1) := by rw [q_2]; exact (fu_ne (by omega)).trans hc1
    have h_5 : ct_1 (h + 2) = .inl (fcI g, 6, .inl f2) := by rw [q_2]; exact (fu_ne (by omega)).trans hc2
    have h_6 : ct_1 (h + 3) = .inl (fcI g, 6, .inl f3) := by rw [q_2]; exact (fu_ne (by omega)).trans hc3
    have h_7 : ct_1 (h + 4) = .inl (fcR g, 20, .inr (.inr (.inr (.inr f4)))) := by rw [q_2]; exact (fu_ne (by omega)).trans hc4
    refine lv_aload_n hx hb dX1_addRumour_19 rfl (lv_at hl 0 rfl) ?_
    refine lv_aload_n hx hb dX1_addRumour_20 rfl (lv_at hl 0 rfl) ?_
    refine fs_get E hP (k := h) (v := .int (nI (nT σ + 1))) 2 fc1 h_3 (by omega) (by decide) (wm wl_4 (i := 13) rfl) rfl dX1_addRumour_21 ?_
    refine lv_iconst (v := (nI 1)) hx hb dX1_addRumour_24 (by decide) ?_
    refine lv_isub hx hb dX1_addRumour_25 ?_
    refine fs_vi (y := (nI (nT σ))) (by rw [pk_sub (by omega)]; rfl) ?_
    refine fs_pr (va_runV (As := [.int (nI (nT σ))]) (rest := []) E.1 (c_X1_rumourAt l g N ct_1 h (nT σ + 1) (nI (nB σ)) (σ 2) f4 (nI (nT σ)) (by omega) (by omega) h_3 h_7 hf4) (lk_RX1_46 E.1.2.2.2.2 ⟨Nat.le_of_ble_eq_true rfl, Nat.le_of_ble_eq_true rfl⟩) (fpreV E hP hS fc1 h_3 (by omega)) rfl rfl hl.1 rfl (lv_room (Nat.le_of_ble_eq_true rfl)) dX1_addRumour_26 ⟨Nat.zero_le _, Nat.zero_le _⟩) hS (fun r_26 locs p_26 hS => ?_)
    refine fs_vv (y := .ref (fa g (h + 5 + nT σ))) (rum_in p_26 (by omega) (by omega)) ?_
    clear p_26
    obtain ⟨te8, kd8, a8, b8, st8, hr8, -⟩ := hc5 (nT σ) (by omega)
    have hr8b : ct_1 (h + 5 + nT σ) = .inr (3, [.int te8, .int kd8, .int a8, .int b8, .int st8]) := ((show fSame h (h + 1) ct ct_1 from (fSame.ap fSame.rf q_2 (by omega) (by omega))) _ (by omega)).trans hr8
    refine lv_astore (lv' := [(5, .ref (fa g (h + 5 + nT σ))), (0, .ref (fa g h)), (1, .int (nI te)), (2, .int (nI kd)), (3, .int (nI a)), (4, .int (nI b))]) hx hb dX1_addRumour_29 hl (by decide) rfl (fun ls hl => ?_)
    refine lv_aload hx hb dX1_addRumour_31 (lv_at hl 0 rfl) ?_
    refine lv_ifnull hx hb dX1_addRumour_33 ?_
    refine lv_aload hx hb dX1_addRumour_36 (lv_at hl 0 rfl) ?_
    refine lv_iload_n hx hb dX1_addRumour_38 rfl (lv_at hl 2 rfl) ?_
    refine lv_iload_n hx hb dX1_addRumour_39 rfl (lv_at hl 3 rfl) ?_
    refine lv_iload_n hx hb dX1_addRumour_40 rfl (lv_at hl 4 rfl) ?_
    refine lv_iload hx hb dX1_addRumour_41 (lv_at hl 5 rfl) ?_
    refine fs_v (va_runV (As := [.int (nI te), .int (nI kd), .int (nI a), .int (nI b)]) (rest := []) E.1 (c_X3_become l g N ct_1 (h + 5 + nT σ) te8 kd8 a8 b8 st8 (nI te) (nI kd) (nI a) (nI b) (by omega) hr8b) (lk_RX1_61 E.1.2.2.2.2 ⟨Nat.le_of_ble_eq_true rfl, Nat.le_of_ble_eq_true rfl⟩) (fpreV E hP hS fc3 hr8b (by omega)) rfl rfl hl.1 rfl (lv_room (Nat.le_of_ble_eq_true rfl)) dX1_addRumour_43 ⟨Nat.zero_le _, Nat.zero_le _⟩) hS (fun ct_8 H locs p_43 hP hS => ?_)
    have h_9 : ct_8 h = .inr (1, [.int (nI (nB σ)), .int (σ 2), .int (nI (nT σ + 1)), .ref (fa g (h + 1)), .ref (fa g (h + 2)), .ref (fa g (h + 3)), .ref (fa g (h + 4))]) := by rw [p_43]; exact (fu_ne (by omega)).trans h_3
    have h_10 : ct_8 (h + 1) = .inl (fcI g, 6, .inl f1) := by rw [p_43]; exact (fu_ne (by omega)).trans h_4
    have h_11 : ct_8 (h + 2) = .inl (fcI g, 6, .inl f2) := by rw [p_43]; exact (fu_ne (by omega)).trans h_5
    have h_12 : ct_8 (h + 3) = .inl (fcI g, 6, .inl f3) := by rw [p_43]; exact (fu_ne (by omega)).trans h_6
    have h_13 : ct_8 (h + 4) = .inl (fcR g, 20, .inr (.inr (.inr (.inr f4)))) := by rw [p_43]; exact (fu_ne (by omega)).trans h_7
    have h_14 : ct_8 (h + 5 + nT σ) = .inr (3, [.int (nI te), .int (nI kd), .int (nI a), .int (nI b), .int (nI 0)]) := by rw [p_43]; exact fu_eq _ _ _
    refine fs_vret E hr hlk hP hS dX1_addRumour_46 ?_
    have hs9 : fSame h (h + 1) ct ct_1 := (fSame.ap fSame.rf q_2 (by omega) (by omega))
    have hs8 : fSame (h + 5 + nT σ) (h + 6 + nT σ) ct_1 ct_8 := fSame.ap fSame.rf p_43 (by omega) (by omega)
    have eT := nT_tell (σ := σ) (te := te) (kd := kd) (a := a) (b := b) hG20
    have hR := rk_told (σ := σ) (te := te) (kd := kd) (a := a) (b := b) (by omega) (by omega) (by omega) (by omega)
    refine ⟨⟨?_, ⟨f1, h_10, fun p9 hp9 => ?_⟩, ⟨f2, h_11, fun p9 hp9 => ?_⟩, ⟨f3, h_12, fun p9 hp9 => ?_⟩, ⟨f4, h_13, hf4⟩, fun r9 hr9 => ?_⟩, (hs9.wide (by omega) (by omega)).tr (hs8.wide (by omega) (by omega))⟩
    · rw [nB_tell, eT, sTell_o (by omega) (by omega)]; exact h_9
    · rw [hf1 p9 hp9, nB_tell, lkf_tell hp9]
    · rw [hf2 p9 hp9, sTell_o (by omega) (by omega)]
    · rw [hf3 p9 hp9, sTell_o (by omega) (by omega)]
    · rcases Decidable.em (r9 = nT σ) with q9 | q9
      · subst q9
        exact ⟨_, _, _, _, _, h_14, fun _ => by rw [hR.1, hR.2.1, hR.2.2.1, hR.2.2.2.1, hR.2.2.2.2]; exact ⟨rfl, rfl, rfl, rfl, rfl⟩⟩
      · obtain ⟨te7, kd7, a7, b7, st7, h7, h7b⟩ := hc5 r9 hr9
        refine ⟨te7, kd7, a7, b7, st7, (hs8 _ (by omega)).trans ((hs9 _ (by omega)).trans h7), fun q => ?_⟩
        rw [eT] at q
        rw [rk_tell (by omega) (by omega), rk_tell (by omega) (by omega), rk_tell (by omega) (by omega), rk_tell (by omega) (by omega), rk_tell (by omega) (by omega)]
        exact h7b (by omega)
  · have c_5 := (fb_0 p_2).mp c_5
    refine fs_vret E hr hlk hP hS dX1_addRumour_8 ?_
    exact absurd (by omega) c_5


/-- all open rumours proved or refuted as they are in truth, the first m -/
def sRev (σ : Nat → Int32) : Nat → (Nat → Int32)
  | 0 => σ
  | m + 1 => if rk σ m 4 = 0 then upd (sRev σ m) (25 + 5 * m) (nI (if hdr σ (lkf σ) m = true then 1 else 2)) else sRev σ m
theorem sRev_o (σ : Nat → Int32) {m i : Nat} (h : ∀ r, r < m → i ≠ 25 + 5 * r) : sRev σ m i = σ i := by
  induction m with
  | zero => rfl
  | succ m ih =>
    unfold sRev
    split
    · rw [upd_ne (h m (by omega)), ih (fun r hr => h r (by omega))]
    · exact ih (fun r hr => h r (by omega))
theorem nB_rev (σ : Nat → Int32) (m : Nat) : nB (sRev σ m) = nB σ := by unfold nB; rw [sRev_o σ (fun r _ => by omega)]
theorem nT_rev (σ : Nat → Int32) (m : Nat) : nT (sRev σ m) = nT σ := by unfold nT; rw [sRev_o σ (fun r _ => by omega)]
theorem lkf_rev (σ : Nat → Int32) (m : Nat) : lkf (sRev σ m) = lkf σ := lkf_fn (fun p hp => sRev_o σ (fun r _ => by omega))
theorem rk_rev (σ : Nat → Int32) {m r j : Nat} (h : j < 4 ∨ (j = 4 ∧ m ≤ r)) : rk (sRev σ m) r j = rk σ r j := by unfold rk; rw [sRev_o σ (fun r2 _ => by omega)]
theorem rk_rev4 (σ : Nat → Int32) {m r : Nat} (h : r < m) : sRev σ m (25 + 5 * r) = if rk σ r 4 = 0 then nI (if hdr σ (lkf σ) r = true then 1 else 2) else σ (25 + 5 * r) := by
  induction m with
  | zero => omega
  | succ m ih =>
    unfold sRev
    by_cases q : r = m
    · subst q
      split
      · rw [upd_eq]
      · exact sRev_o σ (fun r2 _ => by omega)
    · split
      · rw [upd_ne (by omega)]; exact ih (by omega)
      · exact ih (by omega)
theorem Good_rev {σ : Nat → Int32} (H : Good σ) (m : Nat) : Good (sRev σ m) := by
  obtain ⟨⟨g1, g2, g3⟩, ⟨g4, g5⟩, g6, g7, g8⟩ := H
  have eB := nB_rev σ m
  have eT := nT_rev σ m
  refine ⟨⟨?_, by omega, by omega⟩, ⟨?_, by omega⟩, fun p hp => ?_, fun p hp => ?_, fun r hr => ?_⟩
  · rw [eB, sRev_o σ (fun r _ => by omega)]; exact g1
  · rw [eT, sRev_o σ (fun r _ => by omega)]; exact g4
  · rw [eB] at hp
    rw [eB, lkf_rev, sRev_o σ (fun r _ => by omega)]; exact g6 p hp
  · rw [sRev_o σ (fun r _ => by omega)]; exact g7 p hp
  · rw [eT] at hr
    obtain ⟨a1, a2, a3, a4⟩ := g8 r hr
    have h4 : sRev σ m (25 + 5 * r) = nI (rk (sRev σ m) r 4) ∧ rk (sRev σ m) r 4 ≤ 2 := by
      by_cases q : r < m
      · have e := rk_rev4 σ q
        have e2 : rk (sRev σ m) r 4 = (sRev σ m (25 + 5 * r)).toNatClampNeg := by unfold rk; rw [show 21 + 5 * r + 4 = 25 + 5 * r by omega]
        rw [e2, e]
        split
        · split <;> exact ⟨by rw [nI_clamp (by omega)], by rw [nI_clamp (by omega)]; omega⟩
        · have a5 := a1 4 (by omega)
          rw [show 21 + 5 * r + 4 = 25 + 5 * r by omega] at a5
          rw [a5, nI_clamp (by omega)]
          exact ⟨rfl, a4⟩
      · rw [rk_rev σ (by omega), sRev_o σ (fun r2 _ => by omega)]
        have a5 := a1 4 (by omega)
        rw [show 21 + 5 * r + 4 = 25 + 5 * r by omega] at a5
        exact ⟨a5, a4⟩
    refine ⟨fun i hi => ?_, by rw [eB, rk_rev σ (by omega)]; exact a2, by rw [eB, rk_rev σ (by omega), rk_rev σ (by omega), rk_rev σ (by omega)]; exact a3, h4.2⟩
    by_cases q : i = 4
    · subst q; rw [show 21 + 5 * r + 4 = 25 + 5 * r by omega]; exact h4.1
    · rw [rk_rev σ (by omega), sRev_o σ (fun r2 _ => by omega)]; exact a1 i hi
/-- each teller's points for the first m rumours -/
def sSc (σ : Nat → Int32) : Nat → (Nat → Int32)
  | 0 => σ
  | m + 1 => upd (sSc σ m) (9 + rk σ m 0) (sSc σ m (9 + rk σ m 0) + (if hdr σ (lkf σ) m = true then nI 1 else -1))
theorem sSc_o {σ : Nat → Int32} (H : Good σ) {m i : Nat} (hm : m ≤ nT σ) (h : i < 9 ∨ 15 ≤ i) : sSc σ m i = σ i := by
  induction m with
  | zero => rfl
  | succ m ih =>
    have h1 := (H.r (i := m) (by omega)).2.1
    have h2 := H.n6
    unfold sSc
    rw [upd_ne (by omega), ih (by omega)]
theorem nB_sc {σ : Nat → Int32} (H : Good σ) {m : Nat} (hm : m ≤ nT σ) : nB (sSc σ m) = nB σ := by unfold nB; rw [sSc_o H hm (by omega)]
theorem nT_sc {σ : Nat → Int32} (H : Good σ) {m : Nat} (hm : m ≤ nT σ) : nT (sSc σ m) = nT σ := by unfold nT; rw [sSc_o H hm (by omega)]
theorem lkf_sc {σ : Nat → Int32} (H : Good σ) {m : Nat} (hm : m ≤ nT σ) : lkf (sSc σ m) = lkf σ := lkf_fn (fun p hp => sSc_o H hm (by omega))
theorem rk_sc {σ : Nat → Int32} (H : Good σ) {m : Nat} (hm : m ≤ nT σ) (r j : Nat) : rk (sSc σ m) r j = rk σ r j := by unfold rk; rw [sSc_o H hm (by omega)]
theorem Good_sc {σ : Nat → Int32} (H : Good σ) {m : Nat} (hm : m ≤ nT σ) : Good (sSc σ m) := by
  have eB := nB_sc H hm
  have eT := nT_sc H hm
  obtain ⟨⟨g1, g2, g3⟩, ⟨g4, g5⟩, g6, g7, g8⟩ := id H
  refine ⟨⟨?_, by omega, by omega⟩, ⟨?_, by omega⟩, fun p hp => ?_, fun p hp => ?_, fun r hr => ?_⟩
  · rw [eB, sSc_o H hm (by omega)]; exact g1
  · rw [eT, sSc_o H hm (by omega)]; exact g4
  · rw [eB] at hp
    rw [eB, lkf_sc H hm, sSc_o H hm (by omega)]; exact g6 p hp
  · rw [sSc_o H hm (by omega)]; exact g7 p hp
  · rw [eT] at hr
    obtain ⟨a1, a2, a3, a4⟩ := g8 r hr
    refine ⟨fun i hi => ?_, by rw [eB, rk_sc H hm]; exact a2, by rw [eB, rk_sc H hm, rk_sc H hm, rk_sc H hm]; exact a3, by rw [rk_sc H hm]; exact a4⟩
    rw [rk_sc H hm, sSc_o H hm (by omega)]; exact a1 i hi
/-- the act ended -/
def sEnd (σ : Nat → Int32) : Nat → Int32 := fun i => if i = 1 then nI 0 else if i = 2 then σ 2 + 1 else if 15 ≤ i ∧ i < 21 then nI 0 else sSc σ (nT σ) i
theorem sEnd_o {σ : Nat → Int32} {i : Nat} (h1 : i ≠ 1) (h2 : i ≠ 2) (h3 : i < 15 ∨ 21 ≤ i) : sEnd σ i = sSc σ (nT σ) i := by unfold sEnd; rw [if_neg h1, if_neg h2, if_neg (by omega)]
theorem nB_end {σ : Nat → Int32} (H : Good σ) : nB (sEnd σ) = nB σ := by unfold nB; rw [sEnd_o (by omega) (by omega) (by omega), sSc_o H (Nat.le_refl _) (by omega)]
theorem nT_end (σ : Nat → Int32) : nT (sEnd σ) = 0 := by unfold nT sEnd; rw [if_pos rfl, nI_clamp (by omega)]
theorem lkf_end {σ : Nat → Int32} (H : Good σ) : lkf (sEnd σ) = lkf σ := lkf_fn (fun p hp => by rw [sEnd_o (by omega) (by omega) (by omega), sSc_o H (Nat.le_refl _) (by omega)])
theorem Good_end {σ : Nat → Int32} (H : Good σ) : Good (sEnd σ) := by
  have eB := nB_end H
  have eT := nT_end σ
  obtain ⟨⟨g1, g2, g3⟩, ⟨g4, g5⟩, g6, g7, g8⟩ := id H
  refine ⟨⟨?_, by omega, by omega⟩, ⟨?_, by omega⟩, fun p hp => ?_, fun p hp => ?_, fun r hr => absurd hr (by omega)⟩
  · rw [eB, sEnd_o (by omega) (by omega) (by omega), sSc_o H (Nat.le_refl _) (by omega)]; exact g1
  · rw [eT]; unfold sEnd; rw [if_pos rfl]
  · rw [eB] at hp
    rw [eB, lkf_end H, sEnd_o (by omega) (by omega) (by omega), sSc_o H (Nat.le_refl _) (by omega)]; exact g6 p hp
  · left; unfold sEnd; rw [if_neg (by omega), if_neg (by omega), if_pos (by omega)]

set_option maxRecDepth 100000 in
set_option maxHeartbeats 4000000 in
theorem c_X1_revealOpen (l : Launch) (g : fG) (N : Nat) (ct : Nat → va_E) (h : Nat) (σ : Nat → Int32) (hN : h + 25 ≤ N) (hG : Good σ) (hH : HouseAt g ct h σ) : Met l yX1_revealOpen (wsU yX1_revealOpen cX1_revealOpen 4 (some .int)) rX1_revealOpen (fPre g N ct [.ref (fa g h)]) (fQi g N (fun r ct1 => r = nI (cN (fun r => decide (rk σ r 4 = 0)) (nT σ)) ∧ HouseAt g ct1 h (sRev σ (nT σ)) ∧ fSame h (h + 25) ct ct1)) 0 0 (fB g) := by
  refine fs_start (own := RX1) (lv0 := [(0, .ref (fa g h))]) (by decide) rfl (Nat.le_of_ble_eq_true rfl) rfl ?_
  intro p e s m args below meth c ls E hr hlk hnm hP hl hS
  have hx := E.1.1
  have hb := E.1.2.1
  have hG20 := hG.k
  have hG3 := hG.n3
  have hG6 := hG.n6
  
  refine lv_iconst (v := (nI 0)) hx hb dX1_revealOpen_0 (by decide) ?_
  refine lv_istore_n (lv' := [(1, .int (nI 0)), (0, .ref (fa g h))]) hx hb dX1_revealOpen_1 rfl hl (by decide) rfl (fun ls hl => ?_)
  refine lv_iconst (v := (nI 0)) hx hb dX1_revealOpen_2 (by decide) ?_
  refine lv_istore_n (lv' := [(2, .int (nI 0)), (1, .int (nI 0)), (0, .ref (fa g h))]) hx hb dX1_revealOpen_3 rfl hl (by decide) rfl (fun ls hl => ?_)
  refine fs_ind (g := g) (N := N) (St := Nat) (fun (i : Nat) (ct_1 : Nat → va_E) (ls : Array Slot) => lv_has ls 4 [(0, .ref (fa g h)), (1, .int (nI (cN (fun r => decide (rk σ r 4 = 0)) i))), (2, .int (nI i))] ∧ HouseAt g ct_1 h (sRev σ i) ∧ fSame h (h + 25) ct ct_1 ∧ i ≤ nT σ) (fun (i : Nat) => nT σ - i) ?_ 0 _ _ ls _ ⟨lv_sub hl [2, 1, 0] rfl, hH, fSame.rf, Nat.zero_le _⟩ hP hS
  clear hl hP hS
  intro st ct_1 H ls locs hI hP hS ih
  obtain ⟨i, rfl⟩ : ∃ z, z = st := ⟨_, rfl⟩
  obtain ⟨hl, hI⟩ := hI
  obtain ⟨hA, hsA, hI2⟩ := hI
  obtain ⟨hc0, ⟨f1, hc1, hf1⟩, ⟨f2, hc2, -⟩, ⟨f3, hc3, -⟩, ⟨f4, hc4, hf4⟩, hc5⟩ := id hA
  rw [nB_rev, nT_rev] at hc0
  rw [nB_rev, lkf_rev] at hf1
  rw [nT_rev] at hc5
  skip
  refine lv_iload_n hx hb dX1_revealOpen_4 rfl (lv_at hl 2 rfl) ?_
  refine lv_aload_n hx hb dX1_revealOpen_5 rfl (lv_at hl 0 rfl) ?_
  refine fs_get E hP (k := h) (v := .int (nI (nT σ))) 2 fc1 hc0 (by omega) (by decide) (wm wl_4 (i := 13) rfl) rfl dX1_revealOpen_6 ?_
  refine lv_icmp_ge (tgt := 50) hx hb dX1_revealOpen_9 (by decide) (fun c_9 => ?_) (fun c_9 => ?_)
  · rw [nI_leI (by omega) (by omega)] at c_9
    refine lv_iload_n hx hb dX1_revealOpen_50 rfl (lv_at hl 1 rfl) ?_
    refine fs_iret E hr hlk hP hS dX1_revealOpen_51 ?_
    rw [show nT σ = i by omega]; exact ⟨rfl, hA, hsA⟩
  · rw [nI_leI (by omega) (by omega)] at c_9
    refine lv_aload_n hx hb dX1_revealOpen_12 rfl (lv_at hl 0 rfl) ?_
    refine lv_iload_n hx hb dX1_revealOpen_13 rfl (lv_at hl 2 rfl) ?_
    refine fs_pr (va_runV (As := [.int (nI i)]) (rest := []) E.1 (c_X1_rumourAt l g N ct_1 h (nT σ) (nI (nB σ)) (sRev σ i 2) f4 (nI i) (by omega) (by omega) hc0 hc4 hf4) (lk_RX1_46 E.1.2.2.2.2 ⟨Nat.le_of_ble_eq_true rfl, Nat.le_of_ble_eq_true rfl⟩) (fpreV E hP hS fc1 hc0 (by omega)) rfl rfl hl.1 rfl (lv_room (Nat.le_of_ble_eq_true rfl)) dX1_revealOpen_14 ⟨Nat.zero_le _, Nat.zero_le _⟩) hS (fun r_14 locs p_14 hS => ?_)
    refine fs_vv (y := .ref (fa g (h + 5 + i))) (rum_in p_14 (by omega) hG20) ?_
    clear p_14
    obtain ⟨te9, kd9, a9, b9, st9, hr0, hr1⟩ := hc5 i (by omega)
    have hrX := hr1 (by omega)
    rw [rk_rev σ (by omega), rk_rev σ (by omega), rk_rev σ (by omega), rk_rev σ (by omega), rk_rev σ (by omega)] at hrX
    obtain ⟨rfl, rfl, rfl, rfl, rfl⟩ := hrX
    obtain ⟨hrA, hrB, hrC, hrD⟩ := hG.r (i := i) (by omega)
    obtain ⟨hrE, hrF, hrH⟩ := hrC.lt hG6
    refine lv_astore_n (lv' := [(3, .ref (fa g (h + 5 + i))), (0, .ref (fa g h)), (1, .int (nI (cN (fun r => decide (rk σ r 4 = 0)) i))), (2, .int (nI i))]) hx hb dX1_revealOpen_17 rfl hl (by decide) rfl (fun ls hl => ?_)
    refine lv_aload_n hx hb dX1_revealOpen_18 rfl (lv_at hl 0 rfl) ?_
    refine lv_ifnull hx hb dX1_revealOpen_19 ?_
    refine lv_aload_n hx hb dX1_revealOpen_22 rfl (lv_at hl 0 rfl) ?_
    refine fs_getN E hP (k := (h + 5 + i)) (v := .int (nI (rk σ i 4))) 4 fc3 hr0 (by omega) (by decide) (j := 6) rfl rfl dX1_revealOpen_23 ?_
    refine lv_if_ne (tgt := 44) hx hb dX1_revealOpen_26 (by decide) (fun c_26 => ?_) (fun c_26 => ?_)
    · rw [fz_eqN (by omega)] at c_26
      refine lv_iinc (v := (nI (i + 1))) (lv' := [(2, .int (nI (i + 1))), (3, .ref (fa g (h + 5 + i))), (0, .ref (fa g h)), (1, .int (nI (cN (fun r => decide (rk σ r 4 = 0)) i)))]) hx hb dX1_revealOpen_44 hl (k := 3) rfl (nI_1 _) (by decide) rfl (fun ls hl => ?_)
      refine lv_goto (tgt := 4) hx hb dX1_revealOpen_47 (by decide) ?_
      have e9 : nI (cN (fun r => decide (rk σ r 4 = 0)) i) = nI (cN (fun r => decide (rk σ r 4 = 0)) (i + 1)) := by rw [cN_f (decide_eq_false c_26)]
      rw [e9] at hl
      exact ih (i + 1) _ _ ls _ (by (try dsimp only); omega) ⟨lv_sub hl [2, 3, 0] rfl, by unfold sRev; rw [if_neg c_26]; exact hA, hsA, by omega⟩ hP hS
    · rw [fz_eqN (by omega)] at c_26
      refine lv_aload_n hx hb dX1_revealOpen_29 rfl (lv_at hl 0 rfl) ?_
      refine lv_aload_n hx hb dX1_revealOpen_30 rfl (lv_at hl 0 rfl) ?_
      refine lv_aload_n hx hb dX1_revealOpen_31 rfl (lv_at hl 1 rfl) ?_
      refine fs_get E hP (k := h) (v := .ref (fa g (h + 1))) 3 fc1 hc0 (by omega) (by decide) (wm wl_2 (i := 11) rfl) rfl dX1_revealOpen_32 ?_
      refine fs_pi (va_runV (As := [.ref (fa g (h + 1))]) (rest := [.ref (fa g (h + 5 + i))]) E.1 (c_X3_holdsIn l g N ct_1 (h + 5 + i) (h + 1) (nI (rk σ i 0)) (nI (rk σ i 4)) (nB σ) (rk σ i 1) (rk σ i 2) (rk σ i 3) f1 (lkf σ) (by omega) (by omega) hG6 hrC hf1 hG.wok hr0 hc1) (lk_RX1_71 E.1.2.2.2.2 ⟨Nat.le_of_ble_eq_true rfl, Nat.le_of_ble_eq_true rfl⟩) (fpreV E hP hS fc3 hr0 (by omega)) rfl rfl hl.1 rfl (lv_room (Nat.le_of_ble_eq_true rfl)) dX1_revealOpen_35 ⟨Nat.zero_le _, Nat.zero_le _⟩) hS (fun r_35 locs p_35 hS => ?_)
      refine fs_v (va_runV (As := [.int r_35]) (rest := []) E.1 (c_X3_decide l g N ct_1 (h + 5 + i) (nI (rk σ i 0)) (nI (rk σ i 1)) (nI (rk σ i 2)) (nI (rk σ i 3)) (nI (rk σ i 4)) r_35 (hdr σ (lkf σ) i = true) inferInstance p_35 (by omega) hr0) (lk_RX1_75 E.1.2.2.2.2 ⟨Nat.le_of_ble_eq_true rfl, Nat.le_of_ble_eq_true rfl⟩) (fpreV E hP hS fc3 hr0 (by omega)) rfl rfl hl.1 rfl (lv_room (Nat.le_of_ble_eq_true rfl)) dX1_revealOpen_38 ⟨Nat.zero_le _, Nat.zero_le _⟩) hS (fun ct_2 H locs p_38 hP hS => ?_)
      have h_3 : ct_2 h = .inr (1, [.int (nI (nB σ)), .int (sRev σ i 2), .int (nI (nT σ)), .ref (fa g (h + 1)), .ref (fa g (h + 2)), .ref (fa g (h + 3)), .ref (fa g (h + 4))]) := by rw [p_38]; exact (fu_ne (by omega)).trans hc0
      have h_4 : ct_2 (h + 1) = .inl (fcI g, 6, .inl f1) := by rw [p_38]; exact (fu_ne (by omega)).trans hc1
      have h_5 : ct_2 (h + 4) = .inl (fcR g, 20, .inr (.inr (.inr (.inr f4)))) := by rw [p_38]; exact (fu_ne (by omega)).trans hc4
      have h_6 : ct_2 (h + 5 + i) = .inr (3, [.int (nI (rk σ i 0)), .int (nI (rk σ i 1)), .int (nI (rk σ i 2)), .int (nI (rk σ i 3)), .int (nI (if hdr σ (lkf σ) i = true then 1 else 2))]) := by rw [p_38]; exact fu_eq _ _ _
      refine lv_iinc (v := (nI (cN (fun r => decide (rk σ r 4 = 0)) (i + 1)))) (lv' := [(1, .int (nI (cN (fun r => decide (rk σ r 4 = 0)) (i + 1)))), (3, .ref (fa g (h + 5 + i))), (0, .ref (fa g h)), (2, .int (nI i))]) hx hb dX1_revealOpen_41 hl (k := 2) rfl (by rw [cN_t (decide_eq_true c_26)]; exact nI_1 _) (by decide) rfl (fun ls hl => ?_)
      refine lv_iinc (v := (nI (i + 1))) (lv' := [(2, .int (nI (i + 1))), (1, .int (nI (cN (fun r => decide (rk σ r 4 = 0)) (i + 1)))), (3, .ref (fa g (h + 5 + i))), (0, .ref (fa g h))]) hx hb dX1_revealOpen_44 hl (k := 3) rfl (nI_1 _) (by decide) rfl (fun ls hl => ?_)
      refine lv_goto (tgt := 4) hx hb dX1_revealOpen_47 (by decide) ?_
      exact ih (i + 1) _ _ ls _ (by (try dsimp only); omega) ⟨lv_sub hl [3, 1, 0] rfl, by unfold sRev; rw [if_pos c_26]; exact hA.how (by rw [nT_rev]; omega) (by rw [nT_rev]; omega) (by split <;> omega) (by rw [rk_rev σ (by omega), rk_rev σ (by omega), rk_rev σ (by omega), rk_rev σ (by omega)]; exact ⟨rfl, rfl, rfl, rfl⟩) p_38, hsA.ap p_38 (by omega) (by omega), by omega⟩ hP hS

set_option maxRecDepth 100000 in
set_option maxHeartbeats 4000000 in
theorem c_X1_finishAct (l : Launch) (g : fG) (N : Nat) (ct : Nat → va_E) (h : Nat) (σ : Nat → Int32) (hN : h + 25 ≤ N) (hG : Good σ) (hH : HouseAt g ct h σ) : Met l yX1_finishAct (wsU yX1_finishAct cX1_finishAct 2 none) rX1_finishAct (fPre g N ct [.ref (fa g h)]) (fQv g N (fun ct1 => HouseAt g ct1 h (sEnd σ) ∧ fSame h (h + 25) ct ct1)) 0 0 (fB g) := by
  refine fs_start (own := RX1) (lv0 := [(0, .ref (fa g h))]) (by decide) rfl (Nat.le_of_ble_eq_true rfl) rfl ?_
  intro p e s m args below meth c ls E hr hlk hnm hP hl hS
  have hx := E.1.1
  have hb := E.1.2.1
  have hG20 := hG.k
  have hG3 := hG.n3
  have hG6 := hG.n6
  
  refine lv_iconst (v := (nI 0)) hx hb dX1_finishAct_0 (by decide) ?_
  refine lv_istore_n (lv' := [(1, .int (nI 0)), (0, .ref (fa g h))]) hx hb dX1_finishAct_1 rfl hl (by decide) rfl (fun ls hl => ?_)
  refine fs_ind (g := g) (N := N) (St := Nat) (fun (i : Nat) (ct_1 : Nat → va_E) (ls : Array Slot) => lv_has ls 2 [(0, .ref (fa g h)), (1, .int (nI i))] ∧ HouseAt g ct_1 h (sSc σ i) ∧ fSame h (h + 25) ct ct_1 ∧ i ≤ nT σ) (fun (i : Nat) => nT σ - i) ?_ 0 _ _ ls _ ⟨lv_sub hl [1, 0] rfl, hH, fSame.rf, Nat.zero_le _⟩ hP hS
  clear hl hP hS
  intro st ct_1 H ls locs hI hP hS ih
  obtain ⟨i, rfl⟩ : ∃ z, z = st := ⟨_, rfl⟩
  obtain ⟨hl, hI⟩ := hI
  obtain ⟨hA, hsA, hI2⟩ := hI
  have hGs := Good_sc hG hI2
  have hNT := nT_sc hG hI2
  obtain ⟨hc0, ⟨f1, hc1, hf1⟩, ⟨f2, hc2, hf2⟩, ⟨f3, hc3, hf3⟩, ⟨f4, hc4, hf4⟩, hc5⟩ := id hA
  rw [nB_sc hG hI2, nT_sc hG hI2, sSc_o hG hI2 (by omega)] at hc0
  skip
  refine lv_iload_n hx hb dX1_finishAct_2 rfl (lv_at hl 1 rfl) ?_
  refine lv_aload_n hx hb dX1_finishAct_3 rfl (lv_at hl 0 rfl) ?_
  refine fs_get E hP (k := h) (v := .int (nI (nT σ))) 2 fc1 hc0 (by omega) (by decide) (wm wl_4 (i := 13) rfl) rfl dX1_finishAct_4 ?_
  refine lv_icmp_ge (tgt := 41) hx hb dX1_finishAct_7 (by decide) (fun c_7 => ?_) (fun c_7 => ?_)
  · rw [nI_leI (by omega) (by omega)] at c_7
    refine lv_aload_n hx hb dX1_finishAct_41 rfl (lv_at hl 0 rfl) ?_
    refine lv_iconst (v := (nI 0)) hx hb dX1_finishAct_42 (by decide) ?_
    refine fs_put E hP hS (k := h) 2 fc1 hc0 (by omega) (by decide) (wm wl_4 (i := 13) rfl) rfl rfl rfl rfl (Nat.le_of_ble_eq_true rfl) dX1_finishAct_43 (fun ct_2 H locs q_3 hP hS => ?_)
    have h_4 : ct_2 h = .inr (1, [.int (nI (nB σ)), .int (σ 2), .int (nI 0), .ref (fa g (h + 1)), .ref (fa g (h + 2)), .ref (fa g (h + 3)), .ref (fa g (h + 4))]) := by rw [q_3]; exact fu_eq _ _ _
    have h_5 : ct_2 (h + 1) = .inl (fcI g, 6, .inl f1) := by rw [q_3]; exact (fu_ne (by omega)).trans hc1
    have h_6 : ct_2 (h + 2) = .inl (fcI g, 6, .inl f2) := by rw [q_3]; exact (fu_ne (by omega)).trans hc2
    have h_7 : ct_2 (h + 3) = .inl (fcI g, 6, .inl f3) := by rw [q_3]; exact (fu_ne (by omega)).trans hc3
    have h_8 : ct_2 (h + 4) = .inl (fcR g, 20, .inr (.inr (.inr (.inr f4)))) := by rw [q_3]; exact (fu_ne (by omega)).trans hc4
    refine lv_aload_n hx hb dX1_finishAct_46 rfl (lv_at hl 0 rfl) ?_
    refine fs_get E hP (k := h) (v := .ref (fa g (h + 3))) 5 fc1 h_4 (by omega) (by decide) (wm wl_2 (i := 13) rfl) rfl dX1_finishAct_47 ?_
    refine lv_iconst (v := (nI 0)) hx hb dX1_finishAct_50 (by decide) ?_
    refine fs_v (va_runSN (As := [.ref (fa g (h + 3)), .int (nI 0)]) (rest := []) E.1 (c_X7_fillRow l g N ct_2 (h + 3) 6 f3 (nI 0) (by omega) (by omega) h_7) (lk_RX1_38 E.1.2.2.2.2 (E.2.1.2.1 _ (List.mem_of_getElem? (i := 29) rfl)) ⟨Nat.le_of_ble_eq_true rfl, Nat.le_of_ble_eq_true rfl⟩) (fpreS E hP hS) rfl rfl hl.1 rfl (lv_room (Nat.le_of_ble_eq_true rfl)) dX1_finishAct_51 ⟨Nat.zero_le _, Nat.zero_le _⟩) hS (fun ct_9 H locs p_51 hP hS => ?_)
    have h_10 : ct_9 h = .inr (1, [.int (nI (nB σ)), .int (σ 2), .int (nI 0), .ref (fa g (h + 1)), .ref (fa g (h + 2)), .ref (fa g (h + 3)), .ref (fa g (h + 4))]) := by rw [p_51]; exact (fu_ne (by omega)).trans h_4
    have h_11 : ct_9 (h + 1) = .inl (fcI g, 6, .inl f1) := by rw [p_51]; exact (fu_ne (by omega)).trans h_5
    have h_12 : ct_9 (h + 2) = .inl (fcI g, 6, .inl f2) := by rw [p_51]; exact (fu_ne (by omega)).trans h_6
    have h_13 : ct_9 (h + 3) = .inl (fcI g, 6, .inl (cpF 6 (fun _ => (nI 0)) f3)) := by rw [p_51]; exact fu_eq _ _ _
    have h_14 : ct_9 (h + 4) = .inl (fcR g, 20, .inr (.inr (.inr (.inr f4)))) := by rw [p_51]; exact (fu_ne (by omega)).trans h_8
    refine lv_aload_n hx hb dX1_finishAct_54 rfl (lv_at hl 0 rfl) ?_
    refine lv_dup hx hb dX1_finishAct_55 rfl ?_
    refine fs_get E hP (k := h) (v := .int (σ 2)) 1 fc1 h_10 (by omega) (by decide) (wm wl_4 (i := 12) rfl) rfl dX1_finishAct_56 ?_
    refine lv_iconst (v := (nI 1)) hx hb dX1_finishAct_59 (by decide) ?_
    refine lv_iadd hx hb dX1_finishAct_60 ?_
    refine fs_put E hP hS (k := h) 1 fc1 h_10 (by omega) (by decide) (wm wl_4 (i := 12) rfl) rfl rfl rfl rfl (Nat.le_of_ble_eq_true rfl) dX1_finishAct_61 (fun ct_15 H locs q_16 hP hS => ?_)
    have h_17 : ct_15 h = .inr (1, [.int (nI (nB σ)), .int ((σ 2) + (nI 1)), .int (nI 0), .ref (fa g (h + 1)), .ref (fa g (h + 2)), .ref (fa g (h + 3)), .ref (fa g (h + 4))]) := by rw [q_16]; exact fu_eq _ _ _
    have h_18 : ct_15 (h + 1) = .inl (fcI g, 6, .inl f1) := by rw [q_16]; exact (fu_ne (by omega)).trans h_11
    have h_19 : ct_15 (h + 2) = .inl (fcI g, 6, .inl f2) := by rw [q_16]; exact (fu_ne (by omega)).trans h_12
    have h_20 : ct_15 (h + 3) = .inl (fcI g, 6, .inl (cpF 6 (fun _ => (nI 0)) f3)) := by rw [q_16]; exact (fu_ne (by omega)).trans h_13
    have h_21 : ct_15 (h + 4) = .inl (fcR g, 20, .inr (.inr (.inr (.inr f4)))) := by rw [q_16]; exact (fu_ne (by omega)).trans h_14
    refine fs_vret E hr hlk hP hS dX1_finishAct_64 ?_
    have e9 : i = nT σ := by omega
    subst e9
    have hs9 : fSame h (h + 4) ct_1 ct_15 := (fSame.ap (fSame.ap (fSame.ap fSame.rf q_3 (by omega) (by omega)) p_51 (by omega) (by omega)) q_16 (by omega) (by omega))
    refine ⟨⟨?_, ⟨f1, h_18, ?_⟩, ⟨f2, h_19, fun p9 hp9 => ?_⟩, ⟨_, h_20, fun p9 hp9 => ?_⟩, ⟨f4, h_21, hf4⟩, fun r9 hr9 => ?_⟩, hsA.tr (hs9.wide (by omega) (by omega))⟩
    · rw [nB_end hG, nT_end, show sEnd σ 2 = σ 2 + 1 from rfl]; exact h_17
    · rw [nB_end hG, lkf_end hG]; rw [nB_sc hG hI2, lkf_sc hG hI2] at hf1; exact hf1
    · rw [sEnd_o (by omega) (by omega) (by omega)]; exact hf2 p9 hp9
    · rw [cpF_in hp9]; unfold sEnd; rw [if_neg (by omega), if_neg (by omega), if_pos (by omega)]
    · obtain ⟨te7, kd7, a7, b7, st7, h7, -⟩ := hc5 r9 hr9
      exact ⟨te7, kd7, a7, b7, st7, (hs9 _ (by omega)).trans h7, fun q => absurd q (by rw [nT_end]; omega)⟩
  · rw [nI_leI (by omega) (by omega)] at c_7
    refine lv_aload_n hx hb dX1_finishAct_10 rfl (lv_at hl 0 rfl) ?_
    refine fs_get E hP (k := h) (v := .ref (fa g (h + 2))) 4 fc1 hc0 (by omega) (by decide) (wm wl_2 (i := 12) rfl) rfl dX1_finishAct_11 ?_
    refine lv_aload_n hx hb dX1_finishAct_14 rfl (lv_at hl 0 rfl) ?_
    refine lv_iload_n hx hb dX1_finishAct_15 rfl (lv_at hl 1 rfl) ?_
    refine fs_pi (va_runV (As := [.int (nI i)]) (rest := [.ref (fa g (h + 2))]) E.1 (c_X1_tellerOf l g N ct_1 h (sSc σ i) i hN hGs hA (by omega)) (lk_RX1_79 E.1.2.2.2.2 ⟨Nat.le_of_ble_eq_true rfl, Nat.le_of_ble_eq_true rfl⟩) (fpreV E hP hS fc1 hc0 (by omega)) rfl rfl hl.1 rfl (lv_room (Nat.le_of_ble_eq_true rfl)) dX1_finishAct_16 ⟨Nat.zero_le _, Nat.zero_le _⟩) hS (fun r_16 locs p_16 hS => ?_)
    refine fs_vi (y := (nI (rk σ i 0))) (p_16.trans (by rw [rk_sc hG hI2])) ?_
    have hte := (hG.r (i := i) (by omega)).2.1
    refine lv_aload_n hx hb dX1_finishAct_19 rfl (lv_at hl 0 rfl) ?_
    refine lv_iload_n hx hb dX1_finishAct_20 rfl (lv_at hl 1 rfl) ?_
    refine fs_pi (va_runV (As := [.int (nI i)]) (rest := [.int (nI (rk σ i 0)), .ref (fa g (h + 2))]) E.1 (c_X1_isTrue l g N ct_1 h (sSc σ i) i hN hGs hA (by omega)) (lk_RX1_83 E.1.2.2.2.2 ⟨Nat.le_of_ble_eq_true rfl, Nat.le_of_ble_eq_true rfl⟩) (fpreV E hP hS fc1 hc0 (by omega)) rfl rfl hl.1 rfl (lv_room (Nat.le_of_ble_eq_true rfl)) dX1_finishAct_21 ⟨Nat.zero_le _, Nat.zero_le _⟩) hS (fun r_21 locs p_21 hS => ?_)
    have eh : hdr (sSc σ i) (lkf (sSc σ i)) i = hdr σ (lkf σ) i := by unfold hdr; rw [nB_sc hG hI2, lkf_sc hG hI2, rk_sc hG hI2, rk_sc hG hI2, rk_sc hG hI2]
    rw [eh] at p_21
    refine lv_if_eq (tgt := 31) hx hb dX1_finishAct_24 (by decide) (fun c_24 => ?_) (fun c_24 => ?_)
    · have c_24 := (fb_0 p_21).mp c_24
      refine lv_iconst (v := (-1)) hx hb dX1_finishAct_31 (by decide) ?_
      refine fs_v (va_runSN (As := [.ref (fa g (h + 2)), .int (nI (rk σ i 0)), .int (-1)]) (rest := []) E.1 (c_X7_addAt l g N ct_1 (h + 2) 6 f2 (nI (rk σ i 0)) (-1) (by omega) (by omega) hc2) (lk_RX1_86 E.1.2.2.2.2 (E.2.1.2.1 _ (List.mem_of_getElem? (i := 38) rfl)) ⟨Nat.le_of_ble_eq_true rfl, Nat.le_of_ble_eq_true rfl⟩) (fpreS E hP hS) rfl rfl hl.1 rfl (lv_room (Nat.le_of_ble_eq_true rfl)) dX1_finishAct_32 ⟨Nat.zero_le _, Nat.zero_le _⟩) hS (fun ct_22 H locs p_32 hP hS => ?_)
      rw [stF_in (by omega) (by omega), nI_clamp (by omega)] at p_32
      have h_23 : ct_22 h = .inr (1, [.int (nI (nB σ)), .int (σ 2), .int (nI (nT σ)), .ref (fa g (h + 1)), .ref (fa g (h + 2)), .ref (fa g (h + 3)), .ref (fa g (h + 4))]) := by rw [p_32]; exact (fu_ne (by omega)).trans hc0
      have h_24 : ct_22 (h + 1) = .inl (fcI g, 6, .inl f1) := by rw [p_32]; exact (fu_ne (by omega)).trans hc1
      have h_25 : ct_22 (h + 2) = .inl (fcI g, 6, .inl (upd f2 (rk σ i 0) (f2 (rk σ i 0) + (-1)))) := by rw [p_32]; exact fu_eq _ _ _
      have h_26 : ct_22 (h + 3) = .inl (fcI g, 6, .inl f3) := by rw [p_32]; exact (fu_ne (by omega)).trans hc3
      have h_27 : ct_22 (h + 4) = .inl (fcR g, 20, .inr (.inr (.inr (.inr f4)))) := by rw [p_32]; exact (fu_ne (by omega)).trans hc4
      refine lv_iinc (v := (nI (i + 1))) (lv' := [(1, .int (nI (i + 1))), (0, .ref (fa g h))]) hx hb dX1_finishAct_35 hl (k := 1) rfl (nI_1 _) (by decide) rfl (fun ls hl => ?_)
      refine lv_goto (tgt := 2) hx hb dX1_finishAct_38 (by decide) ?_
      exact ih (i + 1) _ _ ls _ (by (try dsimp only); omega) ⟨lv_sub hl [1, 0] rfl, by unfold sSc; rw [if_neg c_24, ← hf2 _ (by omega)]; exact hA.score (by omega) hc2 p_32, hsA.ap p_32 (by omega) (by omega), by omega⟩ hP hS
    · have c_24 := (fb_1 p_21).mp c_24
      refine lv_iconst (v := (nI 1)) hx hb dX1_finishAct_27 (by decide) ?_
      refine lv_goto (tgt := 32) hx hb dX1_finishAct_28 (by decide) ?_
      refine fs_v (va_runSN (As := [.ref (fa g (h + 2)), .int (nI (rk σ i 0)), .int (nI 1)]) (rest := []) E.1 (c_X7_addAt l g N ct_1 (h + 2) 6 f2 (nI (rk σ i 0)) (nI 1) (by omega) (by omega) hc2) (lk_RX1_86 E.1.2.2.2.2 (E.2.1.2.1 _ (List.mem_of_getElem? (i := 38) rfl)) ⟨Nat.le_of_ble_eq_true rfl, Nat.le_of_ble_eq_true rfl⟩) (fpreS E hP hS) rfl rfl hl.1 rfl (lv_room (Nat.le_of_ble_eq_true rfl)) dX1_finishAct_32 ⟨Nat.zero_le _, Nat.zero_le _⟩) hS (fun ct_28 H locs p_32 hP hS => ?_)
      rw [stF_in (by omega) (by omega), nI_clamp (by omega)] at p_32
      have h_29 : ct_28 h = .inr (1, [.int (nI (nB σ)), .int (σ 2), .int (nI (nT σ)), .ref (fa g (h + 1)), .ref (fa g (h + 2)), .ref (fa g (h + 3)), .ref (fa g (h + 4))]) := by rw [p_32]; exact (fu_ne (by omega)).trans hc0
      have h_30 : ct_28 (h + 1) = .inl (fcI g, 6, .inl f1) := by rw [p_32]; exact (fu_ne (by omega)).trans hc1
      have h_31 : ct_28 (h + 2) = .inl (fcI g, 6, .inl (upd f2 (rk σ i 0) (f2 (rk σ i 0) + (nI 1)))) := by rw [p_32]; exact fu_eq _ _ _
      have h_32 : ct_28 (h + 3) = .inl (fcI g, 6, .inl f3) := by rw [p_32]; exact (fu_ne (by omega)).trans hc3
      have h_33 : ct_28 (h + 4) = .inl (fcR g, 20, .inr (.inr (.inr (.inr f4)))) := by rw [p_32]; exact (fu_ne (by omega)).trans hc4
      refine lv_iinc (v := (nI (i + 1))) (lv' := [(1, .int (nI (i + 1))), (0, .ref (fa g h))]) hx hb dX1_finishAct_35 hl (k := 1) rfl (nI_1 _) (by decide) rfl (fun ls hl => ?_)
      refine lv_goto (tgt := 2) hx hb dX1_finishAct_38 (by decide) ?_
      exact ih (i + 1) _ _ ls _ (by (try dsimp only); omega) ⟨lv_sub hl [1, 0] rfl, by unfold sSc; rw [if_pos c_24, ← hf2 _ (by omega)]; exact hA.score (by omega) hc2 p_32, hsA.ap p_32 (by omega) (by omega), by omega⟩ hP hS
