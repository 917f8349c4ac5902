/-! one more rumour; the most watched; a world by its number -/
def pvn (σ : Nat → Int32) (kd a b : Nat) : Nat → Bool := fun q => hd (nB σ) (wd (nB σ) q) kd a b && okq σ q
def mwP (n : Nat) (w : Nat → Nat) (s : Nat × Nat) : Nat → Nat × Nat
  | 0 => s
  | p + 1 => if (mwP n w s p).2 < cN (fun i => decide (w i = p)) n ∨ (cN (fun i => decide (w i = p)) n = (mwP n w s p).2 ∧ p < (mwP n w s p).1) then (p, cN (fun i => decide (w i = p)) n) else mwP n w s p
def mwQ (σ : Nat → Int32) : Nat → Nat × Nat
  | 0 => (0, 0)
  | q + 1 => if okq σ q = true then mwP (nB σ) (wd (nB σ) q) (mwQ σ q) (nB σ) else mwQ σ q
theorem mwP_le {n : Nat} {w : Nat → Nat} {s : Nat × Nat} (hn : n ≤ 6) (h : s.1 ≤ 6 ∧ s.2 ≤ 6) : ∀ p, p ≤ 6 → (mwP n w s p).1 ≤ 6 ∧ (mwP n w s p).2 ≤ 6 := by
  intro p
  induction p with
  | zero => intro _; exact h
  | succ p ih =>
    intro hp
    have h2 := ih (by omega)
    unfold mwP
    split
    · have := cN_le (fun i => decide (w i = p)) n
      exact ⟨by dsimp only; omega, by dsimp only; omega⟩
    · exact h2
theorem mwQ_le {σ : Nat → Int32} (hG : Good σ) : ∀ q, (mwQ σ q).1 ≤ 6 ∧ (mwQ σ q).2 ≤ 6 := by
  intro q
  induction q with
  | zero => exact ⟨Nat.zero_le _, Nat.zero_le _⟩
  | succ q ih =>
    unfold mwQ
    split
    · exact mwP_le hG.n6 ih _ hG.n6
    · exact ih
def wlF (σ : Nat → Int32) (x : Int32) (p : Nat) : Nat → Int32
  | 0 => -1
  | m + 1 => if okq σ m = true ∧ nI (cN (okq σ) m) = x then nI (wd (nB σ) m p) else wlF σ x p m
theorem cN_mono (p : Nat → Bool) {a b : Nat} (h : a ≤ b) : cN p a ≤ cN p b := by
  induction b with
  | zero => rw [show a = 0 by omega]; exact Nat.le_refl _
  | succ b ih =>
    by_cases e : a = b + 1
    · subst e; exact Nat.le_refl _
    · have := ih (by omega); rw [cN_succ]; omega
theorem wlF_hit {σ : Nat → Int32} {x : Int32} {p q m : Nat} (hq : q < m) (hm : m ≤ 20000) (h : okq σ q = true) (hx : nI (cN (okq σ) q) = x) : wlF σ x p m = nI (wd (nB σ) q p) := by
  induction m with
  | zero => omega
  | succ m ih =>
    unfold wlF
    by_cases e : q = m
    · subst e; rw [if_pos ⟨h, hx⟩]
    · have h2 : cN (okq σ) q + 1 ≤ cN (okq σ) m := by
        have := cN_mono (okq σ) (show q + 1 ≤ m by omega)
        rw [cN_t h] at this; exact this
      have h3 := cN_le (okq σ) m
      rw [if_neg (fun z => by
        have z2 := z.2.trans hx.symm
        rw [nI_eq (by omega) (by omega)] at z2; omega)]
      exact ih (by omega) (by omega)

set_option maxRecDepth 100000 in
set_option maxHeartbeats 4000000 in
theorem c_X5_worldsWith (l : Launch) (g : fG) (N : Nat) (ct : Nat → va_E) (v h : Nat) (σ : Nat → Int32) (hNv : v + 7 ≤ N) (hN : h + 25 ≤ N) (hdis : v + 7 ≤ h ∨ h + 25 ≤ v) (hG : Good σ) (hH : HouseAt g ct h σ) (kd a b : Nat) (hok : okk (nB σ) kd a b) (hV : SurvSh g ct v) : Met l yX5_worldsWith (wsU yX5_worldsWith cX5_worldsWith 7 (some .int)) rX5_worldsWith (fPre g N ct [.ref (fa g v), .ref (fa g h), .int (nI kd), .int (nI a), .int (nI b)]) (fQi g N (fun r ct1 => r = nI (cN (pvn σ kd a b) (mM σ)) ∧ WalkSh g ct1 v ∧ SupSh g ct1 v ∧ (∀ j, j = v ∨ j = v + 3 ∨ j = v + 4 ∨ j = v + 5 → ct1 j = ct j) ∧ fSame v (v + 7) ct ct1)) 0 0 (fB g) := by
  refine fs_start (own := RX5) (lv0 := [(0, .ref (fa g v)), (1, .ref (fa g h)), (2, .int (nI kd)), (3, .int (nI a)), (4, .int (nI b))]) (by decide) rfl (Nat.le_of_ble_eq_true rfl) rfl ?_
  intro p e s m args below meth c ls E hr hlk hnm hP hl hS
  have hx := E.1.1
  have hb := E.1.2.1
  have hG20 := hG.k
  have hG3 := hG.n3
  have hG6 := hG.n6
  have hM := hG.M
  have hM1 := hM.1
  have hM2 := hM.2
  have hMe : mM σ = wM (nB σ) := rfl
  obtain ⟨⟨ws, mp, mw, hv0⟩, ⟨g3, hv3⟩, ⟨g4, hv4⟩, ⟨g5, hv5⟩, ⟨⟨b8, hw10⟩, ⟨f80, hw20⟩⟩, ⟨te8, kd8, a8, b9, st8, hv6⟩⟩ := id hV
  obtain ⟨hd0, -⟩ := id hH
  
  refine lv_aload_n hx hb dX5_worldsWith_0 rfl (lv_at hl 0 rfl) ?_
  refine fs_get E hP (k := v) (v := .ref (fa g (v + 6))) 7 fc5 hv0 (by omega) (by decide) (wm wl_4 (i := 2) rfl) rfl dX5_worldsWith_1 ?_
  refine lv_iconst (v := (-1)) hx hb dX5_worldsWith_4 (by decide) ?_
  refine lv_iload_n hx hb dX5_worldsWith_5 rfl (lv_at hl 2 rfl) ?_
  refine lv_iload_n hx hb dX5_worldsWith_6 rfl (lv_at hl 3 rfl) ?_
  refine lv_iload hx hb dX5_worldsWith_7 (lv_at hl 4 rfl) ?_
  refine fs_v (va_runV (As := [.int (-1), .int (nI kd), .int (nI a), .int (nI b)]) (rest := []) E.1 (c_X3_become l g N ct (v + 6) te8 kd8 a8 b9 st8 (-1) (nI kd) (nI a) (nI b) (by omega) hv6) (lk_RX5_113 E.1.2.2.2.2 ⟨Nat.le_of_ble_eq_true rfl, Nat.le_of_ble_eq_true rfl⟩) (fpreV E hP hS fc3 hv6 (by omega)) rfl rfl hl.1 rfl (lv_room (Nat.le_of_ble_eq_true rfl)) dX5_worldsWith_9 ⟨Nat.zero_le _, Nat.zero_le _⟩) hS (fun ct_1 H locs p_9 hP hS => ?_)
  have h_2 : ct_1 v = .inr (5, [.ref (fa g (v + 1)), .int ws, .int mp, .int mw, .ref (fa g (v + 3)), .ref (fa g (v + 4)), .ref (fa g (v + 5)), .ref (fa g (v + 6))]) := by rw [p_9]; exact (fu_ne (by omega)).trans hv0
  have h_3 : ct_1 (v + 1) = .inr (6, [.int b8, .ref (fa g (v + 2))]) := by rw [p_9]; exact (fu_ne (by omega)).trans hw10
  have h_4 : ct_1 (v + 2) = .inl (fcI g, 6, .inl f80) := by rw [p_9]; exact (fu_ne (by omega)).trans hw20
  have h_5 : ct_1 (v + 6) = .inr (3, [.int (-1), .int (nI kd), .int (nI a), .int (nI b), .int (nI 0)]) := by rw [p_9]; exact fu_eq _ _ _
  have h_6 : ct_1 h = .inr (1, [.int (nI (nB σ)), .int (σ 2), .int (nI (nT σ)), .ref (fa g (h + 1)), .ref (fa g (h + 2)), .ref (fa g (h + 3)), .ref (fa g (h + 4))]) := by rw [p_9]; exact (fu_ne (by omega)).trans hd0
  refine lv_iconst (v := (nI 0)) hx hb dX5_worldsWith_12 (by decide) ?_
  refine lv_istore (lv' := [(5, .int (nI 0)), (0, .ref (fa g v)), (1, .ref (fa g h)), (2, .int (nI kd)), (3, .int (nI a)), (4, .int (nI b))]) hx hb dX5_worldsWith_13 hl (by decide) rfl (fun ls hl => ?_)
  refine lv_aload_n hx hb dX5_worldsWith_15 rfl (lv_at hl 1 rfl) ?_
  refine fs_get E hP (k := v) (v := .ref (fa g (v + 1))) 0 fc5 h_2 (by omega) (by decide) (wm wl_3 (i := 21) rfl) rfl dX5_worldsWith_16 ?_
  refine lv_aload_n hx hb dX5_worldsWith_19 rfl (lv_at hl 2 rfl) ?_
  refine fs_getN E hP (k := h) (v := .int (nI (nB σ))) 0 fc1 h_6 (by omega) (by decide) (j := 7) rfl rfl dX5_worldsWith_20 ?_
  refine fs_i (va_runV (As := [.int (nI (nB σ))]) (rest := []) E.1 (c_X6_begin l g N ct_1 (v + 1) (nB σ) b8 f80 (by omega) hG3 hG6 h_3 h_4) (lk_RX5_44 E.1.2.2.2.2 ⟨Nat.le_of_ble_eq_true rfl, Nat.le_of_ble_eq_true rfl⟩) (fpreV E hP hS fc6 h_3 (by omega)) rfl rfl hl.1 rfl (lv_room (Nat.le_of_ble_eq_true rfl)) dX5_worldsWith_23 ⟨Nat.zero_le _, Nat.zero_le _⟩) hS (fun r_23 ct_7 H locs p_23 hP hS => ?_)
  obtain ⟨e12, hb1, ⟨f8, hb2, hb3⟩, hbs⟩ := p_23
  refine fs_vi (y := (nI (mM σ - 0))) (e12.trans rfl) ?_
  have hs6b : ct_7 (v + 6) = .inr (3, [.int (-1), .int (nI kd), .int (nI a), .int (nI b), .int (nI 0)]) := (hbs _ (by omega)).trans h_5
  have hv0b : ct_7 v = .inr (5, [.ref (fa g (v + 1)), .int ws, .int mp, .int mw, .ref (fa g (v + 3)), .ref (fa g (v + 4)), .ref (fa g (v + 5)), .ref (fa g (v + 6))]) := (hbs _ (by omega)).trans h_2
  refine lv_istore (lv' := [(6, .int (nI (mM σ - 0))), (5, .int (nI 0)), (0, .ref (fa g v)), (1, .ref (fa g h)), (2, .int (nI kd)), (3, .int (nI a)), (4, .int (nI b))]) hx hb dX5_worldsWith_26 hl (by decide) rfl (fun ls hl => ?_)
  refine fs_ind (g := g) (N := N) (St := Nat) (fun (q : Nat) (ct_8 : Nat → va_E) (ls : Array Slot) => lv_has ls 7 [(0, .ref (fa g v)), (1, .ref (fa g h)), (5, .int (nI (cN (pvn σ kd a b) q))), (6, .int (nI (mM σ - q)))] ∧ WalkAt g ct_8 v (nB σ) q ∧ ct_8 (v + 6) = .inr (3, [.int (-1), .int (nI kd), .int (nI a), .int (nI b), .int (nI 0)]) ∧ (∀ j, j = v ∨ j = v + 3 ∨ j = v + 4 ∨ j = v + 5 → ct_8 j = ct j) ∧ fSame v (v + 7) ct ct_8 ∧ q ≤ mM σ) (fun (q : Nat) => mM σ - q) ?_ 0 _ _ ls _ ⟨lv_sub hl [2, 3, 1, 0] rfl, ⟨hb1, f8, hb2, fun _ => hb3⟩, hs6b, fun j8 hj8 => by
    refine (hbs j8 (by omega)).trans ?_
    rw [p_9]; refine (fu_ne (by omega)).trans ?_
    rfl, (fSame.tr (fSame.ap fSame.rf p_9 (by omega) (by omega)) (hbs.wide (by omega) (by omega))), Nat.zero_le _⟩ hP hS
  clear hl hP hS
  intro st ct_8 H ls locs hI hP hS ih
  obtain ⟨q, rfl⟩ : ∃ z, z = st := ⟨_, rfl⟩
  obtain ⟨hl, hI⟩ := hI
  obtain ⟨hWc, hS6, hOt, hsA, hqM⟩ := hI
  have hv0c := (hOt v (by omega)).trans hv0
  have hHc : HouseAt g ct_8 h σ := hH.keep (fun j8 h8 h9 => hsA j8 (by omega))
  obtain ⟨hw1, fw, hw2, hRW0⟩ := id hWc
  have hwok := wd_ok hG3 q
  obtain ⟨hc0, -, -, -, ⟨f4, hc4, hf4⟩, hc5⟩ := id hHc
  skip
  refine lv_iload hx hb dX5_worldsWith_28 (lv_at hl 3 rfl) ?_
  refine lv_if_le (tgt := 83) hx hb dX5_worldsWith_30 (by decide) (fun c_30 => ?_) (fun c_30 => ?_)
  · rw [fz_leN (by omega)] at c_30
    refine lv_iload hx hb dX5_worldsWith_83 (lv_at hl 2 rfl) ?_
    refine fs_iret E hr hlk hP hS dX5_worldsWith_85 ?_
    have eq9 : q = mM σ := by omega
    rw [eq9]
    exact ⟨rfl, hWc.sh, ⟨_, _, _, _, _, hS6⟩, hOt, hsA⟩
  · rw [fz_leN (by omega)] at c_30
    have hqlt : q < wM (nB σ) := by omega
    have hRW := hRW0 hqlt
    refine lv_aload_n hx hb dX5_worldsWith_33 rfl (lv_at hl 0 rfl) ?_
    refine fs_get E hP (k := v) (v := .ref (fa g (v + 6))) 7 fc5 hv0c (by omega) (by decide) (wm wl_4 (i := 2) rfl) rfl dX5_worldsWith_34 ?_
    refine lv_aload_n hx hb dX5_worldsWith_37 rfl (lv_at hl 0 rfl) ?_
    refine fs_get E hP (k := v) (v := .ref (fa g (v + 1))) 0 fc5 hv0c (by omega) (by decide) (wm wl_3 (i := 21) rfl) rfl dX5_worldsWith_38 ?_
    refine fs_getN E hP (k := (v + 1)) (v := .ref (fa g (v + 2))) 1 fc6 hw1 (by omega) (by decide) (j := 17) rfl rfl dX5_worldsWith_41 ?_
    refine fs_pi (va_runV (As := [.ref (fa g (v + 2))]) (rest := []) E.1 (c_X3_holdsIn l g N ct_8 (v + 6) (v + 2) (-1) (nI 0) (nB σ) kd a b fw (wd (nB σ) q) (by omega) (by omega) hG6 hok hRW hwok hS6 hw2) (lk_RX5_84 E.1.2.2.2.2 ⟨Nat.le_of_ble_eq_true rfl, Nat.le_of_ble_eq_true rfl⟩) (fpreV E hP hS fc3 hS6 (by omega)) rfl rfl hl.1 rfl (lv_room (Nat.le_of_ble_eq_true rfl)) dX5_worldsWith_44 ⟨Nat.zero_le _, Nat.zero_le _⟩) hS (fun r_44 locs p_44 hS => ?_)
    refine lv_if_eq (tgt := 70) hx hb dX5_worldsWith_47 (by decide) (fun c_47 => ?_) (fun c_47 => ?_)
    · have c_47 := (fb_0 p_44).mp c_47
      refine lv_aload_n hx hb dX5_worldsWith_70 rfl (lv_at hl 0 rfl) ?_
      refine fs_get E hP (k := v) (v := .ref (fa g (v + 1))) 0 fc5 hv0c (by omega) (by decide) (wm wl_3 (i := 21) rfl) rfl dX5_worldsWith_71 ?_
      refine fs_v (va_runV (As := []) (rest := []) E.1 (c_X6_step l g N ct_8 (v + 1) (nB σ) q fw (by omega) hG3 hG6 hqlt hw1 hw2 hRW) (lk_RX5_63 E.1.2.2.2.2 ⟨Nat.le_of_ble_eq_true rfl, Nat.le_of_ble_eq_true rfl⟩) (fpreV E hP hS fc6 hw1 (by omega)) rfl rfl hl.1 rfl (lv_room (Nat.le_of_ble_eq_true rfl)) dX5_worldsWith_74 ⟨Nat.zero_le _, Nat.zero_le _⟩) hS (fun ct_9 H locs p_74 hP hS => ?_)
      obtain ⟨f9, q79, hR79⟩ := p_74
      refine lv_iinc (v := (nI (mM σ - (q + 1)))) (lv' := [(6, .int (nI (mM σ - (q + 1)))), (0, .ref (fa g v)), (1, .ref (fa g h)), (5, .int (nI (cN (pvn σ kd a b) q)))]) hx hb dX5_worldsWith_77 hl (k := 3) rfl (by rw [show mM σ - q = (mM σ - (q + 1)) + 1 by omega]; exact pk_m1 _) (by decide) rfl (fun ls hl => ?_)
      refine lv_goto (tgt := 28) hx hb dX5_worldsWith_80 (by decide) ?_
      have e9 : nI (cN (pvn σ kd a b) q) = nI (cN (pvn σ kd a b) (q + 1)) := by rw [cN_f (by unfold pvn; rw [Bool.eq_false_iff.mpr c_47]; rfl)]
      rw [e9] at hl
      exact ih (q + 1) _ _ ls _ (by (try dsimp only); omega) ⟨lv_sub hl [1, 2, 3, 0] rfl, ⟨by rw [q79]; exact (fu_ne (by omega)).trans hw1, f9, by rw [q79]; exact fu_eq _ _ _, hR79⟩, by rw [q79]; exact (fu_ne (by omega)).trans hS6, fun j8 hj8 => by rw [q79]; exact (fu_ne (by omega)).trans (hOt j8 hj8), (fSame.ap (fSame.tr fSame.rf hsA) q79 (by omega) (by omega)), by omega⟩ hP hS
    · have c_47 := (fb_1 p_44).mp c_47
      refine lv_aload_n hx hb dX5_worldsWith_50 rfl (lv_at hl 1 rfl) ?_
      refine lv_iconst (v := (nI 0)) hx hb dX5_worldsWith_51 (by decide) ?_
      refine lv_aload_n hx hb dX5_worldsWith_52 rfl (lv_at hl 0 rfl) ?_
      refine fs_get E hP (k := v) (v := .ref (fa g (v + 1))) 0 fc5 hv0c (by omega) (by decide) (wm wl_3 (i := 21) rfl) rfl dX5_worldsWith_53 ?_
      refine fs_getN E hP (k := (v + 1)) (v := .ref (fa g (v + 2))) 1 fc6 hw1 (by omega) (by decide) (j := 17) rfl rfl dX5_worldsWith_56 ?_
      refine fs_pi (va_runV (As := [.int (nI 0), .ref (fa g (v + 2))]) (rest := []) E.1 (c_X1_firstBroken l g N ct_8 h σ 0 (v + 2) fw (wd (nB σ) q) hN (by omega) hG hHc (Nat.zero_le _) hw2 hRW hwok) (lk_RX5_51 E.1.2.2.2.2 ⟨Nat.le_of_ble_eq_true rfl, Nat.le_of_ble_eq_true rfl⟩) (fpreV E hP hS fc1 hc0 (by omega)) rfl rfl hl.1 rfl (lv_room (Nat.le_of_ble_eq_true rfl)) dX5_worldsWith_59 ⟨Nat.zero_le _, Nat.zero_le _⟩) hS (fun r_59 locs p_59 hS => ?_)
      rcases p_59 with ⟨e59, hall59⟩ | ⟨i59, hlo59, hhi59, e59, hba59, hbb59⟩
      · refine fs_vi (y := (-6)) e59 ?_
        refine lv_bipush (v := (-6)) hx hb dX5_worldsWith_62 (by decide) ?_
        refine lv_icmp_ne (tgt := 70) hx hb dX5_worldsWith_64 (by decide) (fun c_64 => ?_) (fun c_64 => ?_)
        · exact absurd rfl c_64
        · refine lv_iinc (v := (nI (cN (pvn σ kd a b) (q + 1)))) (lv' := [(5, .int (nI (cN (pvn σ kd a b) (q + 1)))), (0, .ref (fa g v)), (1, .ref (fa g h)), (6, .int (nI (mM σ - q)))]) hx hb dX5_worldsWith_67 hl (k := 2) rfl (by rw [cN_t (by unfold pvn; rw [c_47, okq_t.mpr (fun r8 h8 => hall59 r8 (Nat.zero_le _) h8)]; rfl)]; exact nI_1 _) (by decide) rfl (fun ls hl => ?_)
          refine lv_aload_n hx hb dX5_worldsWith_70 rfl (lv_at hl 1 rfl) ?_
          refine fs_get E hP (k := v) (v := .ref (fa g (v + 1))) 0 fc5 hv0c (by omega) (by decide) (wm wl_3 (i := 21) rfl) rfl dX5_worldsWith_71 ?_
          refine fs_v (va_runV (As := []) (rest := []) E.1 (c_X6_step l g N ct_8 (v + 1) (nB σ) q fw (by omega) hG3 hG6 hqlt hw1 hw2 hRW) (lk_RX5_63 E.1.2.2.2.2 ⟨Nat.le_of_ble_eq_true rfl, Nat.le_of_ble_eq_true rfl⟩) (fpreV E hP hS fc6 hw1 (by omega)) rfl rfl hl.1 rfl (lv_room (Nat.le_of_ble_eq_true rfl)) dX5_worldsWith_74 ⟨Nat.zero_le _, Nat.zero_le _⟩) hS (fun ct_10 H locs p_74 hP hS => ?_)
          obtain ⟨f9, q79, hR79⟩ := p_74
          refine lv_iinc (v := (nI (mM σ - (q + 1)))) (lv' := [(6, .int (nI (mM σ - (q + 1)))), (5, .int (nI (cN (pvn σ kd a b) (q + 1)))), (0, .ref (fa g v)), (1, .ref (fa g h))]) hx hb dX5_worldsWith_77 hl (k := 3) rfl (by rw [show mM σ - q = (mM σ - (q + 1)) + 1 by omega]; exact pk_m1 _) (by decide) rfl (fun ls hl => ?_)
          refine lv_goto (tgt := 28) hx hb dX5_worldsWith_80 (by decide) ?_
          exact ih (q + 1) _ _ ls _ (by (try dsimp only); omega) ⟨lv_sub hl [2, 3, 1, 0] rfl, ⟨by rw [q79]; exact (fu_ne (by omega)).trans hw1, f9, by rw [q79]; exact fu_eq _ _ _, hR79⟩, by rw [q79]; exact (fu_ne (by omega)).trans hS6, fun j8 hj8 => by rw [q79]; exact (fu_ne (by omega)).trans (hOt j8 hj8), (fSame.ap (fSame.tr fSame.rf hsA) q79 (by omega) (by omega)), by omega⟩ hP hS
      · refine fs_vi (y := (nI i59)) e59 ?_
        refine lv_bipush (v := (-6)) hx hb dX5_worldsWith_62 (by decide) ?_
        refine lv_icmp_ne (tgt := 70) hx hb dX5_worldsWith_64 (by decide) (fun c_64 => ?_) (fun c_64 => ?_)
        · refine lv_aload_n hx hb dX5_worldsWith_70 rfl (lv_at hl 0 rfl) ?_
          refine fs_get E hP (k := v) (v := .ref (fa g (v + 1))) 0 fc5 hv0c (by omega) (by decide) (wm wl_3 (i := 21) rfl) rfl dX5_worldsWith_71 ?_
          refine fs_v (va_runV (As := []) (rest := []) E.1 (c_X6_step l g N ct_8 (v + 1) (nB σ) q fw (by omega) hG3 hG6 hqlt hw1 hw2 hRW) (lk_RX5_63 E.1.2.2.2.2 ⟨Nat.le_of_ble_eq_true rfl, Nat.le_of_ble_eq_true rfl⟩) (fpreV E hP hS fc6 hw1 (by omega)) rfl rfl hl.1 rfl (lv_room (Nat.le_of_ble_eq_true rfl)) dX5_worldsWith_74 ⟨Nat.zero_le _, Nat.zero_le _⟩) hS (fun ct_11 H locs p_74 hP hS => ?_)
          obtain ⟨f9, q79, hR79⟩ := p_74
          refine lv_iinc (v := (nI (mM σ - (q + 1)))) (lv' := [(6, .int (nI (mM σ - (q + 1)))), (0, .ref (fa g v)), (1, .ref (fa g h)), (5, .int (nI (cN (pvn σ kd a b) q)))]) hx hb dX5_worldsWith_77 hl (k := 3) rfl (by rw [show mM σ - q = (mM σ - (q + 1)) + 1 by omega]; exact pk_m1 _) (by decide) rfl (fun ls hl => ?_)
          refine lv_goto (tgt := 28) hx hb dX5_worldsWith_80 (by decide) ?_
          have e9 : nI (cN (pvn σ kd a b) q) = nI (cN (pvn σ kd a b) (q + 1)) := by rw [cN_f (by unfold pvn; rw [okq_f hhi59 hba59, Bool.and_false])]
          rw [e9] at hl
          exact ih (q + 1) _ _ ls _ (by (try dsimp only); omega) ⟨lv_sub hl [1, 2, 3, 0] rfl, ⟨by rw [q79]; exact (fu_ne (by omega)).trans hw1, f9, by rw [q79]; exact fu_eq _ _ _, hR79⟩, by rw [q79]; exact (fu_ne (by omega)).trans hS6, fun j8 hj8 => by rw [q79]; exact (fu_ne (by omega)).trans (hOt j8 hj8), (fSame.ap (fSame.tr fSame.rf hsA) q79 (by omega) (by omega)), by omega⟩ hP hS
        · exact absurd c_64 (nI_ne6 (by omega))

set_option maxRecDepth 100000 in
set_option maxHeartbeats 4000000 in
theorem c_X5_boxInWorld (l : Launch) (g : fG) (N : Nat) (ct : Nat → va_E) (v h : Nat) (σ : Nat → Int32) (hNv : v + 7 ≤ N) (hN : h + 25 ≤ N) (hdis : v + 7 ≤ h ∨ h + 25 ≤ v) (hG : Good σ) (hH : HouseAt g ct h σ) (x : Int32) (p0 : Nat) (hp0 : p0 < nB σ) (hV : SurvSh g ct v) : Met l yX5_boxInWorld (wsU yX5_boxInWorld cX5_boxInWorld 6 (some .int)) rX5_boxInWorld (fPre g N ct [.ref (fa g v), .ref (fa g h), .int x, .int (nI p0)]) (fQi g N (fun r ct1 => r = wlF σ x p0 (mM σ) ∧ WalkSh g ct1 v ∧ (∀ j, j = v ∨ j = v + 3 ∨ j = v + 4 ∨ j = v + 5 ∨ j = v + 6 → ct1 j = ct j) ∧ fSame v (v + 7) ct ct1)) 0 0 (fB g) := by
  refine fs_start (own := RX5) (lv0 := [(0, .ref (fa g v)), (1, .ref (fa g h)), (2, .int x), (3, .int (nI p0))]) (by decide) rfl (Nat.le_of_ble_eq_true rfl) rfl ?_
  intro p e s m args below meth c ls E hr hlk hnm hP hl hS
  have hx := E.1.1
  have hb := E.1.2.1
  have hG20 := hG.k
  have hG3 := hG.n3
  have hG6 := hG.n6
  have hM := hG.M
  have hM1 := hM.1
  have hM2 := hM.2
  have hMe : mM σ = wM (nB σ) := rfl
  obtain ⟨⟨ws, mp, mw, hv0⟩, ⟨g3, hv3⟩, ⟨g4, hv4⟩, ⟨g5, hv5⟩, ⟨⟨b8, hw10⟩, ⟨f80, hw20⟩⟩, ⟨te8, kd8, a8, b9, st8, hv6⟩⟩ := id hV
  obtain ⟨hd0, -⟩ := id hH
  
  refine lv_iconst (v := (nI 0)) hx hb dX5_boxInWorld_0 (by decide) ?_
  refine lv_istore (lv' := [(4, .int (nI 0)), (0, .ref (fa g v)), (1, .ref (fa g h)), (2, .int x), (3, .int (nI p0))]) hx hb dX5_boxInWorld_1 hl (by decide) rfl (fun ls hl => ?_)
  refine lv_aload_n hx hb dX5_boxInWorld_3 rfl (lv_at hl 1 rfl) ?_
  refine fs_get E hP (k := v) (v := .ref (fa g (v + 1))) 0 fc5 hv0 (by omega) (by decide) (wm wl_3 (i := 21) rfl) rfl dX5_boxInWorld_4 ?_
  refine lv_aload_n hx hb dX5_boxInWorld_7 rfl (lv_at hl 2 rfl) ?_
  refine fs_getN E hP (k := h) (v := .int (nI (nB σ))) 0 fc1 hd0 (by omega) (by decide) (j := 7) rfl rfl dX5_boxInWorld_8 ?_
  refine fs_i (va_runV (As := [.int (nI (nB σ))]) (rest := []) E.1 (c_X6_begin l g N ct (v + 1) (nB σ) b8 f80 (by omega) hG3 hG6 hw10 hw20) (lk_RX5_44 E.1.2.2.2.2 ⟨Nat.le_of_ble_eq_true rfl, Nat.le_of_ble_eq_true rfl⟩) (fpreV E hP hS fc6 hw10 (by omega)) rfl rfl hl.1 rfl (lv_room (Nat.le_of_ble_eq_true rfl)) dX5_boxInWorld_11 ⟨Nat.zero_le _, Nat.zero_le _⟩) hS (fun r_11 ct_1 H locs p_11 hP hS => ?_)
  obtain ⟨e12, hb1, ⟨f8, hb2, hb3⟩, hbs⟩ := p_11
  refine fs_vi (y := (nI (mM σ - 0))) (e12.trans rfl) ?_
  refine lv_istore (lv' := [(5, .int (nI (mM σ - 0))), (4, .int (nI 0)), (0, .ref (fa g v)), (1, .ref (fa g h)), (2, .int x), (3, .int (nI p0))]) hx hb dX5_boxInWorld_14 hl (by decide) rfl (fun ls hl => ?_)
  refine fs_ind (g := g) (N := N) (St := Nat) (fun (q : Nat) (ct_2 : Nat → va_E) (ls : Array Slot) => lv_has ls 6 [(0, .ref (fa g v)), (1, .ref (fa g h)), (2, .int x), (3, .int (nI p0)), (4, .int (nI (cN (okq σ) q))), (5, .int (nI (mM σ - q)))] ∧ WalkAt g ct_2 v (nB σ) q ∧ (∀ j, j = v ∨ j = v + 3 ∨ j = v + 4 ∨ j = v + 5 ∨ j = v + 6 → ct_2 j = ct j) ∧ fSame v (v + 7) ct ct_2 ∧ wlF σ x p0 q = -1 ∧ q ≤ mM σ) (fun (q : Nat) => mM σ - q) ?_ 0 _ _ ls _ ⟨lv_sub hl [2, 3, 4, 5, 1, 0] rfl, ⟨hb1, f8, hb2, fun _ => hb3⟩, fun j8 hj8 => by
    refine (hbs j8 (by omega)).trans ?_
    rfl, (fSame.tr fSame.rf (hbs.wide (by omega) (by omega))), rfl, Nat.zero_le _⟩ hP hS
  clear hl hP hS
  intro st ct_2 H ls locs hI hP hS ih
  obtain ⟨q, rfl⟩ : ∃ z, z = st := ⟨_, rfl⟩
  obtain ⟨hl, hI⟩ := hI
  obtain ⟨hWc, hOt, hsA, hwl, hqM⟩ := hI
  have hv0c := (hOt v (Or.inl rfl)).trans hv0
  have hHc : HouseAt g ct_2 h σ := hH.keep (fun j8 h8 h9 => hsA j8 (by omega))
  obtain ⟨hw1, fw, hw2, hRW0⟩ := id hWc
  have hwok := wd_ok hG3 q
  obtain ⟨hc0, -, -, -, ⟨f4, hc4, hf4⟩, hc5⟩ := id hHc
  skip
  refine lv_iload hx hb dX5_boxInWorld_16 (lv_at hl 5 rfl) ?_
  refine lv_if_le (tgt := 72) hx hb dX5_boxInWorld_18 (by decide) (fun c_18 => ?_) (fun c_18 => ?_)
  · rw [fz_leN (by omega)] at c_18
    refine lv_iconst (v := (-1)) hx hb dX5_boxInWorld_72 (by decide) ?_
    refine fs_iret E hr hlk hP hS dX5_boxInWorld_73 ?_
    have eq9 : q = mM σ := by omega
    rw [eq9] at hwl
    exact ⟨hwl.symm, hWc.sh, hOt, hsA⟩
  · rw [fz_leN (by omega)] at c_18
    have hqlt : q < wM (nB σ) := by omega
    have hRW := hRW0 hqlt
    refine lv_aload_n hx hb dX5_boxInWorld_21 rfl (lv_at hl 1 rfl) ?_
    refine lv_iconst (v := (nI 0)) hx hb dX5_boxInWorld_22 (by decide) ?_
    refine lv_aload_n hx hb dX5_boxInWorld_23 rfl (lv_at hl 0 rfl) ?_
    refine fs_get E hP (k := v) (v := .ref (fa g (v + 1))) 0 fc5 hv0c (by omega) (by decide) (wm wl_3 (i := 21) rfl) rfl dX5_boxInWorld_24 ?_
    refine fs_getN E hP (k := (v + 1)) (v := .ref (fa g (v + 2))) 1 fc6 hw1 (by omega) (by decide) (j := 17) rfl rfl dX5_boxInWorld_27 ?_
    refine fs_pi (va_runV (As := [.int (nI 0), .ref (fa g (v + 2))]) (rest := []) E.1 (c_X1_firstBroken l g N ct_2 h σ 0 (v + 2) fw (wd (nB σ) q) hN (by omega) hG hHc (Nat.zero_le _) hw2 hRW hwok) (lk_RX5_51 E.1.2.2.2.2 ⟨Nat.le_of_ble_eq_true rfl, Nat.le_of_ble_eq_true rfl⟩) (fpreV E hP hS fc1 hc0 (by omega)) rfl rfl hl.1 rfl (lv_room (Nat.le_of_ble_eq_true rfl)) dX5_boxInWorld_30 ⟨Nat.zero_le _, Nat.zero_le _⟩) hS (fun r_30 locs p_30 hS => ?_)
    rcases p_30 with ⟨e30, hall30⟩ | ⟨i30, hlo30, hhi30, e30, hba30, hbb30⟩
    · refine fs_vi (y := (-6)) e30 ?_
      refine lv_bipush (v := (-6)) hx hb dX5_boxInWorld_33 (by decide) ?_
      refine lv_icmp_ne (tgt := 59) hx hb dX5_boxInWorld_35 (by decide) (fun c_35 => ?_) (fun c_35 => ?_)
      · exact absurd rfl c_35
      · refine lv_iload hx hb dX5_boxInWorld_38 (lv_at hl 4 rfl) ?_
        refine lv_iload_n hx hb dX5_boxInWorld_40 rfl (lv_at hl 2 rfl) ?_
        refine lv_icmp_ne (tgt := 56) hx hb dX5_boxInWorld_41 (by decide) (fun c_41 => ?_) (fun c_41 => ?_)
        · refine lv_iinc (v := (nI (cN (okq σ) (q + 1)))) (lv' := [(4, .int (nI (cN (okq σ) (q + 1)))), (0, .ref (fa g v)), (1, .ref (fa g h)), (2, .int x), (3, .int (nI p0)), (5, .int (nI (mM σ - q)))]) hx hb dX5_boxInWorld_56 hl (k := 4) rfl (by rw [cN_t (okq_t.mpr (fun r8 h8 => hall30 r8 (Nat.zero_le _) h8))]; exact nI_1 _) (by decide) rfl (fun ls hl => ?_)
          refine lv_aload_n hx hb dX5_boxInWorld_59 rfl (lv_at hl 1 rfl) ?_
          refine fs_get E hP (k := v) (v := .ref (fa g (v + 1))) 0 fc5 hv0c (by omega) (by decide) (wm wl_3 (i := 21) rfl) rfl dX5_boxInWorld_60 ?_
          refine fs_v (va_runV (As := []) (rest := []) E.1 (c_X6_step l g N ct_2 (v + 1) (nB σ) q fw (by omega) hG3 hG6 hqlt hw1 hw2 hRW) (lk_RX5_63 E.1.2.2.2.2 ⟨Nat.le_of_ble_eq_true rfl, Nat.le_of_ble_eq_true rfl⟩) (fpreV E hP hS fc6 hw1 (by omega)) rfl rfl hl.1 rfl (lv_room (Nat.le_of_ble_eq_true rfl)) dX5_boxInWorld_63 ⟨Nat.zero_le _, Nat.zero_le _⟩) hS (fun ct_3 H locs p_63 hP hS => ?_)
          obtain ⟨f9, q79, hR79⟩ := p_63
          refine lv_iinc (v := (nI (mM σ - (q + 1)))) (lv' := [(5, .int (nI (mM σ - (q + 1)))), (4, .int (nI (cN (okq σ) (q + 1)))), (0, .ref (fa g v)), (1, .ref (fa g h)), (2, .int x), (3, .int (nI p0))]) hx hb dX5_boxInWorld_66 hl (k := 5) rfl (by rw [show mM σ - q = (mM σ - (q + 1)) + 1 by omega]; exact pk_m1 _) (by decide) rfl (fun ls hl => ?_)
          refine lv_goto (tgt := 16) hx hb dX5_boxInWorld_69 (by decide) ?_
          exact ih (q + 1) _ _ ls _ (by (try dsimp only); omega) ⟨lv_sub hl [2, 3, 4, 5, 1, 0] rfl, ⟨by rw [q79]; exact (fu_ne (by omega)).trans hw1, f9, by rw [q79]; exact fu_eq _ _ _, hR79⟩, fun j8 hj8 => by rw [q79]; exact (fu_ne (by omega)).trans (hOt j8 hj8), (fSame.ap (fSame.tr fSame.rf hsA) q79 (by omega) (by omega)), by unfold wlF; rw [if_neg (fun z => c_41 z.2)]; exact hwl, by omega⟩ hP hS
        · refine lv_aload_n hx hb dX5_boxInWorld_44 rfl (lv_at hl 0 rfl) ?_
          refine fs_get E hP (k := v) (v := .ref (fa g (v + 1))) 0 fc5 hv0c (by omega) (by decide) (wm wl_3 (i := 21) rfl) rfl dX5_boxInWorld_45 ?_
          refine fs_getN E hP (k := (v + 1)) (v := .ref (fa g (v + 2))) 1 fc6 hw1 (by omega) (by decide) (j := 17) rfl rfl dX5_boxInWorld_48 ?_
          refine lv_iload_n hx hb dX5_boxInWorld_51 rfl (lv_at hl 3 rfl) ?_
          refine fs_pi (va_runSN (As := [.ref (fa g (v + 2)), .int (nI p0)]) (rest := []) E.1 (c_X7_at l g N ct_2 (v + 2) 6 fw (nI p0) (by omega) (by omega) hw2) (lk_RX5_73 E.1.2.2.2.2 (E.2.1.2.1 _ (List.mem_of_getElem? (i := 34) rfl)) ⟨Nat.le_of_ble_eq_true rfl, Nat.le_of_ble_eq_true rfl⟩) (fpreS E hP hS) rfl rfl hl.1 rfl (lv_room (Nat.le_of_ble_eq_true rfl)) dX5_boxInWorld_52 ⟨Nat.zero_le _, Nat.zero_le _⟩) hS (fun r_52 locs p_52 hS => ?_)
          refine fs_vi (y := (nI (wd (nB σ) q p0))) (p_52.trans ((atF_in (by omega) (by omega)).trans (hRW.in hp0 hG6))) ?_
          refine fs_iret E hr hlk hP hS dX5_boxInWorld_55 ?_
          exact ⟨(wlF_hit (by omega) (by omega) (okq_t.mpr (fun r8 h8 => hall30 r8 (Nat.zero_le _) h8)) c_41).symm, hWc.sh, hOt, hsA⟩
    · refine fs_vi (y := (nI i30)) e30 ?_
      refine lv_bipush (v := (-6)) hx hb dX5_boxInWorld_33 (by decide) ?_
      refine lv_icmp_ne (tgt := 59) hx hb dX5_boxInWorld_35 (by decide) (fun c_35 => ?_) (fun c_35 => ?_)
      · refine lv_aload_n hx hb dX5_boxInWorld_59 rfl (lv_at hl 0 rfl) ?_
        refine fs_get E hP (k := v) (v := .ref (fa g (v + 1))) 0 fc5 hv0c (by omega) (by decide) (wm wl_3 (i := 21) rfl) rfl dX5_boxInWorld_60 ?_
        refine fs_v (va_runV (As := []) (rest := []) E.1 (c_X6_step l g N ct_2 (v + 1) (nB σ) q fw (by omega) hG3 hG6 hqlt hw1 hw2 hRW) (lk_RX5_63 E.1.2.2.2.2 ⟨Nat.le_of_ble_eq_true rfl, Nat.le_of_ble_eq_true rfl⟩) (fpreV E hP hS fc6 hw1 (by omega)) rfl rfl hl.1 rfl (lv_room (Nat.le_of_ble_eq_true rfl)) dX5_boxInWorld_63 ⟨Nat.zero_le _, Nat.zero_le _⟩) hS (fun ct_4 H locs p_63 hP hS => ?_)
        obtain ⟨f9, q79, hR79⟩ := p_63
        refine lv_iinc (v := (nI (mM σ - (q + 1)))) (lv' := [(5, .int (nI (mM σ - (q + 1)))), (0, .ref (fa g v)), (1, .ref (fa g h)), (2, .int x), (3, .int (nI p0)), (4, .int (nI (cN (okq σ) q)))]) hx hb dX5_boxInWorld_66 hl (k := 5) rfl (by rw [show mM σ - q = (mM σ - (q + 1)) + 1 by omega]; exact pk_m1 _) (by decide) rfl (fun ls hl => ?_)
        refine lv_goto (tgt := 16) hx hb dX5_boxInWorld_69 (by decide) ?_
        have hnk := okq_f hhi30 hba30
        have e9 : nI (cN (okq σ) q) = nI (cN (okq σ) (q + 1)) := by rw [cN_f hnk]
        rw [e9] at hl
        exact ih (q + 1) _ _ ls _ (by (try dsimp only); omega) ⟨lv_sub hl [1, 2, 3, 4, 5, 0] rfl, ⟨by rw [q79]; exact (fu_ne (by omega)).trans hw1, f9, by rw [q79]; exact fu_eq _ _ _, hR79⟩, fun j8 hj8 => by rw [q79]; exact (fu_ne (by omega)).trans (hOt j8 hj8), (fSame.ap (fSame.tr fSame.rf hsA) q79 (by omega) (by omega)), by unfold wlF; rw [hnk, if_neg (fun z => absurd z.1 (by decide))]; exact hwl, by omega⟩ hP hS
      · exact absurd c_35 (nI_ne6 (by omega))

set_option maxRecDepth 100000 in
set_option maxHeartbeats 4000000 in
theorem c_X5_compareWatchers (l : Launch) (g : fG) (N : Nat) (ct : Nat → va_E) (v : Nat) (ws : Int32) (mp mw p0 c0 : Nat) (hNv : v + 7 ≤ N) (h1 : mp < 100) (h2 : mw < 100) (h3 : p0 < 100) (h4 : c0 < 100) (hv0 : ct v = .inr (5, [.ref (fa g (v + 1)), .int ws, .int (nI mp), .int (nI mw), .ref (fa g (v + 3)), .ref (fa g (v + 4)), .ref (fa g (v + 5)), .ref (fa g (v + 6))])) : Met l yX5_compareWatchers (wsU yX5_compareWatchers cX5_compareWatchers 3 none) rX5_compareWatchers (fPre g N ct [.ref (fa g v), .int (nI p0), .int (nI c0)]) (fQv g N (fun ct1 => ct1 = fu ct v (.inr (5, [.ref (fa g (v + 1)), .int ws, .int (nI (if mw < c0 ∨ (c0 = mw ∧ p0 < mp) then (p0, c0) else (mp, mw)).1), .int (nI (if mw < c0 ∨ (c0 = mw ∧ p0 < mp) then (p0, c0) else (mp, mw)).2), .ref (fa g (v + 3)), .ref (fa g (v + 4)), .ref (fa g (v + 5)), .ref (fa g (v + 6))])))) 0 0 (fB g) := by
  refine fs_start (own := RX5) (lv0 := [(0, .ref (fa g v)), (1, .int (nI p0)), (2, .int (nI c0))]) (by decide) rfl (Nat.le_of_ble_eq_true rfl) rfl ?_
  intro p e s m args below meth c ls E hr hlk hnm hP hl hS
  have hx := E.1.1
  have hb := E.1.2.1
  refine lv_iload_n hx hb dX5_compareWatchers_0 rfl (lv_at hl 2 rfl) ?_
  refine lv_aload_n hx hb dX5_compareWatchers_1 rfl (lv_at hl 0 rfl) ?_
  refine fs_get E hP (k := v) (v := .int (nI mw)) 3 fc5 hv0 (by omega) (by decide) (wm wl_17 (i := 18) rfl) rfl dX5_compareWatchers_2 ?_
  refine lv_icmp_gt (tgt := 24) hx hb dX5_compareWatchers_5 (by decide) (fun c_5 => ?_) (fun c_5 => ?_)
  · rw [nI_ltI (by omega) (by omega)] at c_5
    refine lv_aload_n hx hb dX5_compareWatchers_24 rfl (lv_at hl 0 rfl) ?_
    refine lv_iload_n hx hb dX5_compareWatchers_25 rfl (lv_at hl 2 rfl) ?_
    refine fs_put E hP hS (k := v) 3 fc5 hv0 (by omega) (by decide) (wm wl_17 (i := 18) rfl) rfl rfl rfl rfl (Nat.le_of_ble_eq_true rfl) dX5_compareWatchers_26 (fun ct_1 H locs q_2 hP hS => ?_)
    have h_3 : ct_1 v = .inr (5, [.ref (fa g (v + 1)), .int ws, .int (nI mp), .int (nI c0), .ref (fa g (v + 3)), .ref (fa g (v + 4)), .ref (fa g (v + 5)), .ref (fa g (v + 6))]) := by rw [q_2]; exact fu_eq _ _ _
    refine lv_aload_n hx hb dX5_compareWatchers_29 rfl (lv_at hl 0 rfl) ?_
    refine lv_iload_n hx hb dX5_compareWatchers_30 rfl (lv_at hl 1 rfl) ?_
    refine fs_put E hP hS (k := v) 2 fc5 h_3 (by omega) (by decide) (wm wl_17 (i := 17) rfl) rfl rfl rfl rfl (Nat.le_of_ble_eq_true rfl) dX5_compareWatchers_31 (fun ct_4 H locs q_5 hP hS => ?_)
    have h_6 : ct_4 v = .inr (5, [.ref (fa g (v + 1)), .int ws, .int (nI p0), .int (nI c0), .ref (fa g (v + 3)), .ref (fa g (v + 4)), .ref (fa g (v + 5)), .ref (fa g (v + 6))]) := by rw [q_5]; exact fu_eq _ _ _
    refine fs_vret E hr hlk hP hS dX5_compareWatchers_34 ?_
    rw [if_pos (by omega), q_5, q_2, fu_fu]; rfl
  · rw [nI_ltI (by omega) (by omega)] at c_5
    refine lv_iload_n hx hb dX5_compareWatchers_8 rfl (lv_at hl 2 rfl) ?_
    refine lv_aload_n hx hb dX5_compareWatchers_9 rfl (lv_at hl 0 rfl) ?_
    refine fs_get E hP (k := v) (v := .int (nI mw)) 3 fc5 hv0 (by omega) (by decide) (wm wl_17 (i := 18) rfl) rfl dX5_compareWatchers_10 ?_
    refine lv_icmp_ne (tgt := 34) hx hb dX5_compareWatchers_13 (by decide) (fun c_13 => ?_) (fun c_13 => ?_)
    · rw [nI_eq (by omega) (by omega)] at c_13
      refine fs_vret E hr hlk hP hS dX5_compareWatchers_34 ?_
      rw [if_neg (by omega)]; exact (fu_same hv0).symm
    · rw [nI_eq (by omega) (by omega)] at c_13
      refine lv_iload_n hx hb dX5_compareWatchers_16 rfl (lv_at hl 1 rfl) ?_
      refine lv_aload_n hx hb dX5_compareWatchers_17 rfl (lv_at hl 0 rfl) ?_
      refine fs_get E hP (k := v) (v := .int (nI mp)) 2 fc5 hv0 (by omega) (by decide) (wm wl_17 (i := 17) rfl) rfl dX5_compareWatchers_18 ?_
      refine lv_icmp_ge (tgt := 34) hx hb dX5_compareWatchers_21 (by decide) (fun c_21 => ?_) (fun c_21 => ?_)
      · rw [nI_leI (by omega) (by omega)] at c_21
        refine fs_vret E hr hlk hP hS dX5_compareWatchers_34 ?_
        rw [if_neg (by omega)]; exact (fu_same hv0).symm
      · rw [nI_leI (by omega) (by omega)] at c_21
        refine lv_aload_n hx hb dX5_compareWatchers_24 rfl (lv_at hl 0 rfl) ?_
        refine lv_iload_n hx hb dX5_compareWatchers_25 rfl (lv_at hl 2 rfl) ?_
        refine fs_put E hP hS (k := v) 3 fc5 hv0 (by omega) (by decide) (wm wl_17 (i := 18) rfl) rfl rfl rfl rfl (Nat.le_of_ble_eq_true rfl) dX5_compareWatchers_26 (fun ct_7 H locs q_8 hP hS => ?_)
        have h_9 : ct_7 v = .inr (5, [.ref (fa g (v + 1)), .int ws, .int (nI mp), .int (nI c0), .ref (fa g (v + 3)), .ref (fa g (v + 4)), .ref (fa g (v + 5)), .ref (fa g (v + 6))]) := by rw [q_8]; exact fu_eq _ _ _
        refine lv_aload_n hx hb dX5_compareWatchers_29 rfl (lv_at hl 0 rfl) ?_
        refine lv_iload_n hx hb dX5_compareWatchers_30 rfl (lv_at hl 1 rfl) ?_
        refine fs_put E hP hS (k := v) 2 fc5 h_9 (by omega) (by decide) (wm wl_17 (i := 17) rfl) rfl rfl rfl rfl (Nat.le_of_ble_eq_true rfl) dX5_compareWatchers_31 (fun ct_10 H locs q_11 hP hS => ?_)
        have h_12 : ct_10 v = .inr (5, [.ref (fa g (v + 1)), .int ws, .int (nI p0), .int (nI c0), .ref (fa g (v + 3)), .ref (fa g (v + 4)), .ref (fa g (v + 5)), .ref (fa g (v + 6))]) := by rw [q_11]; exact fu_eq _ _ _
        refine fs_vret E hr hlk hP hS dX5_compareWatchers_34 ?_
        rw [if_pos (by omega), q_11, q_8, fu_fu]; rfl

set_option maxRecDepth 100000 in
set_option maxHeartbeats 4000000 in
theorem c_X5_findMostWatched (l : Launch) (g : fG) (N : Nat) (ct : Nat → va_E) (v h : Nat) (σ : Nat → Int32) (hNv : v + 7 ≤ N) (hN : h + 25 ≤ N) (hdis : v + 7 ≤ h ∨ h + 25 ≤ v) (hG : Good σ) (hH : HouseAt g ct h σ) (hV : SurvSh g ct v) : Met l yX5_findMostWatched (wsU yX5_findMostWatched cX5_findMostWatched 4 none) rX5_findMostWatched (fPre g N ct [.ref (fa g v), .ref (fa g h)]) (fQv g N (fun ct1 => (∀ ws mp mw : Int32, ct v = .inr (5, [.ref (fa g (v + 1)), .int ws, .int mp, .int mw, .ref (fa g (v + 3)), .ref (fa g (v + 4)), .ref (fa g (v + 5)), .ref (fa g (v + 6))]) → ct1 v = .inr (5, [.ref (fa g (v + 1)), .int ws, .int (nI (mwQ σ (mM σ)).1), .int (nI (mwQ σ (mM σ)).2), .ref (fa g (v + 3)), .ref (fa g (v + 4)), .ref (fa g (v + 5)), .ref (fa g (v + 6))])) ∧ WalkSh g ct1 v ∧ (∀ j, j = v + 3 ∨ j = v + 4 ∨ j = v + 5 ∨ j = v + 6 → ct1 j = ct j) ∧ fSame v (v + 7) ct ct1)) 0 0 (fB g) := by
  refine fs_start (own := RX5) (lv0 := [(0, .ref (fa g v)), (1, .ref (fa g h))]) (by decide) rfl (Nat.le_of_ble_eq_true rfl) rfl ?_
  intro p e s m args below meth c ls E hr hlk hnm hP hl hS
  have hx := E.1.1
  have hb := E.1.2.1
  have hG20 := hG.k
  have hG3 := hG.n3
  have hG6 := hG.n6
  have hM := hG.M
  have hM1 := hM.1
  have hM2 := hM.2
  have hMe : mM σ = wM (nB σ) := rfl
  obtain ⟨⟨ws, mp, mw, hv0⟩, ⟨g3, hv3⟩, ⟨g4, hv4⟩, ⟨g5, hv5⟩, ⟨⟨b8, hw10⟩, ⟨f80, hw20⟩⟩, ⟨te8, kd8, a8, b9, st8, hv6⟩⟩ := id hV
  obtain ⟨hd0, -⟩ := id hH
  
  refine lv_aload_n hx hb dX5_findMostWatched_0 rfl (lv_at hl 0 rfl) ?_
  refine lv_iconst (v := (nI 0)) hx hb dX5_findMostWatched_1 (by decide) ?_
  refine fs_put E hP hS (k := v) 2 fc5 hv0 (by omega) (by decide) (wm wl_17 (i := 17) rfl) rfl rfl rfl rfl (Nat.le_of_ble_eq_true rfl) dX5_findMostWatched_2 (fun ct_1 H locs q_2 hP hS => ?_)
  have h_3 : ct_1 v = .inr (5, [.ref (fa g (v + 1)), .int ws, .int (nI 0), .int mw, .ref (fa g (v + 3)), .ref (fa g (v + 4)), .ref (fa g (v + 5)), .ref (fa g (v + 6))]) := by rw [q_2]; exact fu_eq _ _ _
  have h_4 : ct_1 (v + 1) = .inr (6, [.int b8, .ref (fa g (v + 2))]) := by rw [q_2]; exact (fu_ne (by omega)).trans hw10
  have h_5 : ct_1 (v + 2) = .inl (fcI g, 6, .inl f80) := by rw [q_2]; exact (fu_ne (by omega)).trans hw20
  have h_6 : ct_1 (v + 6) = .inr (3, [.int te8, .int kd8, .int a8, .int b9, .int st8]) := by rw [q_2]; exact (fu_ne (by omega)).trans hv6
  have h_7 : ct_1 h = .inr (1, [.int (nI (nB σ)), .int (σ 2), .int (nI (nT σ)), .ref (fa g (h + 1)), .ref (fa g (h + 2)), .ref (fa g (h + 3)), .ref (fa g (h + 4))]) := by rw [q_2]; exact (fu_ne (by omega)).trans hd0
  refine lv_aload_n hx hb dX5_findMostWatched_5 rfl (lv_at hl 0 rfl) ?_
  refine lv_iconst (v := (nI 0)) hx hb dX5_findMostWatched_6 (by decide) ?_
  refine fs_put E hP hS (k := v) 3 fc5 h_3 (by omega) (by decide) (wm wl_17 (i := 18) rfl) rfl rfl rfl rfl (Nat.le_of_ble_eq_true rfl) dX5_findMostWatched_7 (fun ct_8 H locs q_9 hP hS => ?_)
  have h_10 : ct_8 v = .inr (5, [.ref (fa g (v + 1)), .int ws, .int (nI 0), .int (nI 0), .ref (fa g (v + 3)), .ref (fa g (v + 4)), .ref (fa g (v + 5)), .ref (fa g (v + 6))]) := by rw [q_9]; exact fu_eq _ _ _
  have h_11 : ct_8 (v + 1) = .inr (6, [.int b8, .ref (fa g (v + 2))]) := by rw [q_9]; exact (fu_ne (by omega)).trans h_4
  have h_12 : ct_8 (v + 2) = .inl (fcI g, 6, .inl f80) := by rw [q_9]; exact (fu_ne (by omega)).trans h_5
  have h_13 : ct_8 (v + 6) = .inr (3, [.int te8, .int kd8, .int a8, .int b9, .int st8]) := by rw [q_9]; exact (fu_ne (by omega)).trans h_6
  have h_14 : ct_8 h = .inr (1, [.int (nI (nB σ)), .int (σ 2), .int (nI (nT σ)), .ref (fa g (h + 1)), .ref (fa g (h + 2)), .ref (fa g (h + 3)), .ref (fa g (h + 4))]) := by rw [q_9]; exact (fu_ne (by omega)).trans h_7
  refine lv_aload_n hx hb dX5_findMostWatched_10 rfl (lv_at hl 0 rfl) ?_
  refine fs_get E hP (k := v) (v := .ref (fa g (v + 1))) 0 fc5 h_10 (by omega) (by decide) (wm wl_3 (i := 21) rfl) rfl dX5_findMostWatched_11 ?_
  refine lv_aload_n hx hb dX5_findMostWatched_14 rfl (lv_at hl 1 rfl) ?_
  refine fs_getN E hP (k := h) (v := .int (nI (nB σ))) 0 fc1 h_14 (by omega) (by decide) (j := 7) rfl rfl dX5_findMostWatched_15 ?_
  refine fs_i (va_runV (As := [.int (nI (nB σ))]) (rest := []) E.1 (c_X6_begin l g N ct_8 (v + 1) (nB σ) b8 f80 (by omega) hG3 hG6 h_11 h_12) (lk_RX5_44 E.1.2.2.2.2 ⟨Nat.le_of_ble_eq_true rfl, Nat.le_of_ble_eq_true rfl⟩) (fpreV E hP hS fc6 h_11 (by omega)) rfl rfl hl.1 rfl (lv_room (Nat.le_of_ble_eq_true rfl)) dX5_findMostWatched_18 ⟨Nat.zero_le _, Nat.zero_le _⟩) hS (fun r_18 ct_15 H locs p_18 hP hS => ?_)
  obtain ⟨e12, hb1, ⟨f8, hb2, hb3⟩, hbs⟩ := p_18
  refine fs_vi (y := (nI (mM σ - 0))) (e12.trans rfl) ?_
  have hv0b : ct_15 v = .inr (5, [.ref (fa g (v + 1)), .int ws, .int (nI (mwQ σ 0).1), .int (nI (mwQ σ 0).2), .ref (fa g (v + 3)), .ref (fa g (v + 4)), .ref (fa g (v + 5)), .ref (fa g (v + 6))]) := (hbs _ (by omega)).trans h_10
  refine lv_istore_n (lv' := [(2, .int (nI (mM σ - 0))), (0, .ref (fa g v)), (1, .ref (fa g h))]) hx hb dX5_findMostWatched_21 rfl hl (by decide) rfl (fun ls hl => ?_)
  refine fs_ind (g := g) (N := N) (St := Nat) (fun (q : Nat) (ct_16 : Nat → va_E) (ls : Array Slot) => lv_has ls 4 [(0, .ref (fa g v)), (1, .ref (fa g h)), (2, .int (nI (mM σ - q)))] ∧ WalkAt g ct_16 v (nB σ) q ∧ ct_16 v = .inr (5, [.ref (fa g (v + 1)), .int ws, .int (nI (mwQ σ q).1), .int (nI (mwQ σ q).2), .ref (fa g (v + 3)), .ref (fa g (v + 4)), .ref (fa g (v + 5)), .ref (fa g (v + 6))]) ∧ (∀ j, j = v + 3 ∨ j = v + 4 ∨ j = v + 5 ∨ j = v + 6 → ct_16 j = ct j) ∧ fSame v (v + 7) ct ct_16 ∧ q ≤ mM σ) (fun (q : Nat) => mM σ - q) ?_ 0 _ _ ls _ ⟨lv_sub hl [1, 2, 0] rfl, ⟨hb1, f8, hb2, fun _ => hb3⟩, hv0b, fun j8 hj8 => by
    refine (hbs j8 (by omega)).trans ?_
    rw [q_9]; refine (fu_ne (by omega)).trans ?_
    rw [q_2]; refine (fu_ne (by omega)).trans ?_
    rfl, (fSame.tr (fSame.ap (fSame.ap fSame.rf q_2 (by omega) (by omega)) q_9 (by omega) (by omega)) (hbs.wide (by omega) (by omega))), Nat.zero_le _⟩ hP hS
  clear hl hP hS
  intro st ct_16 H ls locs hI hP hS ih
  obtain ⟨q, rfl⟩ : ∃ z, z = st := ⟨_, rfl⟩
  obtain ⟨hl, hI⟩ := hI
  obtain ⟨hWc, hv0c, hOt, hsA, hqM⟩ := hI
  have hmq := mwQ_le hG q
  have hHc : HouseAt g ct_16 h σ := hH.keep (fun j8 h8 h9 => hsA j8 (by omega))
  obtain ⟨hw1, fw, hw2, hRW0⟩ := id hWc
  have hwok := wd_ok hG3 q
  obtain ⟨hc0, -, -, -, ⟨f4, hc4, hf4⟩, hc5⟩ := id hHc
  skip
  refine lv_iload_n hx hb dX5_findMostWatched_22 rfl (lv_at hl 2 rfl) ?_
  refine lv_if_le (tgt := 88) hx hb dX5_findMostWatched_23 (by decide) (fun c_23 => ?_) (fun c_23 => ?_)
  · rw [fz_leN (by omega)] at c_23
    refine fs_vret E hr hlk hP hS dX5_findMostWatched_88 ?_
    have eq9 : q = mM σ := by omega
    rw [eq9] at hv0c
    refine ⟨fun ws2 mp2 mw2 h2 => ?_, hWc.sh, hOt, hsA⟩
    have h3 := hv0.symm.trans h2
    injection h3 with h4
    injection h4 with h5 h6
    injection h6 with h7 h8
    injection h8 with h9 h10
    injection h9 with h11
    rw [← h11]; exact hv0c
  · rw [fz_leN (by omega)] at c_23
    have hqlt : q < wM (nB σ) := by omega
    have hRW := hRW0 hqlt
    refine lv_aload_n hx hb dX5_findMostWatched_26 rfl (lv_at hl 1 rfl) ?_
    refine lv_iconst (v := (nI 0)) hx hb dX5_findMostWatched_27 (by decide) ?_
    refine lv_aload_n hx hb dX5_findMostWatched_28 rfl (lv_at hl 0 rfl) ?_
    refine fs_get E hP (k := v) (v := .ref (fa g (v + 1))) 0 fc5 hv0c (by omega) (by decide) (wm wl_3 (i := 21) rfl) rfl dX5_findMostWatched_29 ?_
    refine fs_getN E hP (k := (v + 1)) (v := .ref (fa g (v + 2))) 1 fc6 hw1 (by omega) (by decide) (j := 17) rfl rfl dX5_findMostWatched_32 ?_
    refine fs_pi (va_runV (As := [.int (nI 0), .ref (fa g (v + 2))]) (rest := []) E.1 (c_X1_firstBroken l g N ct_16 h σ 0 (v + 2) fw (wd (nB σ) q) hN (by omega) hG hHc (Nat.zero_le _) hw2 hRW hwok) (lk_RX5_51 E.1.2.2.2.2 ⟨Nat.le_of_ble_eq_true rfl, Nat.le_of_ble_eq_true rfl⟩) (fpreV E hP hS fc1 hc0 (by omega)) rfl rfl hl.1 rfl (lv_room (Nat.le_of_ble_eq_true rfl)) dX5_findMostWatched_35 ⟨Nat.zero_le _, Nat.zero_le _⟩) hS (fun r_35 locs p_35 hS => ?_)
    rcases p_35 with ⟨e35, hall35⟩ | ⟨i35, hlo35, hhi35, e35, hba35, hbb35⟩
    · refine fs_vi (y := (-6)) e35 ?_
      refine lv_bipush (v := (-6)) hx hb dX5_findMostWatched_38 (by decide) ?_
      refine lv_icmp_ne (tgt := 75) hx hb dX5_findMostWatched_40 (by decide) (fun c_40 => ?_) (fun c_40 => ?_)
      · exact absurd rfl c_40
      · refine lv_iconst (v := (nI 0)) hx hb dX5_findMostWatched_43 (by decide) ?_
        refine lv_istore_n (lv' := [(3, .int (nI 0)), (0, .ref (fa g v)), (1, .ref (fa g h)), (2, .int (nI (mM σ - q)))]) hx hb dX5_findMostWatched_44 rfl hl (by decide) rfl (fun ls hl => ?_)
        refine fs_ind (g := g) (N := N) (St := Nat) (fun (i : Nat) (ct_17 : Nat → va_E) (ls : Array Slot) => lv_has ls 4 [(0, .ref (fa g v)), (1, .ref (fa g h)), (2, .int (nI (mM σ - q))), (3, .int (nI i))] ∧ i ≤ nB σ ∧ ct_17 v = .inr (5, [.ref (fa g (v + 1)), .int ws, .int (nI ((mwP (nB σ) (wd (nB σ) q) (mwQ σ q) i)).1), .int (nI ((mwP (nB σ) (wd (nB σ) q) (mwQ σ q) i)).2), .ref (fa g (v + 3)), .ref (fa g (v + 4)), .ref (fa g (v + 5)), .ref (fa g (v + 6))]) ∧ ∀ j, j ≠ v → ct_17 j = ct_16 j) (fun (i : Nat) => nB σ - i) ?_ 0 _ _ ls _ ⟨lv_sub hl [1, 2, 3, 0] rfl, Nat.zero_le _, hv0c, fun _ _ => rfl⟩ hP hS
        clear hl hP hS
        intro st ct_17 H ls locs hI hP hS ih2
        obtain ⟨i, rfl⟩ : ∃ z, z = st := ⟨_, rfl⟩
        obtain ⟨hl, hI⟩ := hI
        obtain ⟨hi, hvi, hOi⟩ := hI
        have hmp := mwP_le (w := wd (nB σ) q) hG6 hmq i (by omega)
        have h_18 : ct_17 h = .inr (1, [.int (nI (nB σ)), .int (σ 2), .int (nI (nT σ)), .ref (fa g (h + 1)), .ref (fa g (h + 2)), .ref (fa g (h + 3)), .ref (fa g (h + 4))]) := (hOi _ (by omega)).trans hc0
        have h_19 : ct_17 (v + 1) = .inr (6, [.int (nI (nB σ)), .ref (fa g (v + 2))]) := (hOi _ (by omega)).trans hw1
        have h_20 : ct_17 (v + 2) = .inl (fcI g, 6, .inl fw) := (hOi _ (by omega)).trans hw2
        skip
        refine lv_iload_n hx hb dX5_findMostWatched_45 rfl (lv_at hl 3 rfl) ?_
        refine lv_aload_n hx hb dX5_findMostWatched_46 rfl (lv_at hl 1 rfl) ?_
        refine fs_getN E hP (k := h) (v := .int (nI (nB σ))) 0 fc1 h_18 (by omega) (by decide) (j := 7) rfl rfl dX5_findMostWatched_47 ?_
        refine lv_icmp_ge (tgt := 75) hx hb dX5_findMostWatched_50 (by decide) (fun c_50 => ?_) (fun c_50 => ?_)
        · rw [nI_leI (by omega) (by omega)] at c_50
          have hbk : okq σ q = true := okq_t.mpr (fun r8 h8 => hall35 r8 (Nat.zero_le _) h8)
          have ein : i = nB σ := by omega
          rw [ein] at hvi
          have hvn : ct_17 v = .inr (5, [.ref (fa g (v + 1)), .int ws, .int (nI (mwQ σ (q + 1)).1), .int (nI (mwQ σ (q + 1)).2), .ref (fa g (v + 3)), .ref (fa g (v + 4)), .ref (fa g (v + 5)), .ref (fa g (v + 6))]) := by unfold mwQ; rw [if_pos hbk]; exact hvi
          have hOn : ∀ j, j = v + 3 ∨ j = v + 4 ∨ j = v + 5 ∨ j = v + 6 → ct_17 j = ct j := fun j8 hj8 => (hOi j8 (by omega)).trans (hOt j8 hj8)
          have hsn : fSame v (v + 7) ct ct_17 := hsA.tr (fun j8 hj8 => hOi j8 (by omega))
          refine lv_aload_n hx hb dX5_findMostWatched_75 rfl (lv_at hl 0 rfl) ?_
          refine fs_get E hP (k := v) (v := .ref (fa g (v + 1))) 0 fc5 hvi (by omega) (by decide) (wm wl_3 (i := 21) rfl) rfl dX5_findMostWatched_76 ?_
          refine fs_v (va_runV (As := []) (rest := []) E.1 (c_X6_step l g N ct_17 (v + 1) (nB σ) q fw (by omega) hG3 hG6 hqlt h_19 h_20 hRW) (lk_RX5_63 E.1.2.2.2.2 ⟨Nat.le_of_ble_eq_true rfl, Nat.le_of_ble_eq_true rfl⟩) (fpreV E hP hS fc6 h_19 (by omega)) rfl rfl hl.1 rfl (lv_room (Nat.le_of_ble_eq_true rfl)) dX5_findMostWatched_79 ⟨Nat.zero_le _, Nat.zero_le _⟩) hS (fun ct_21 H locs p_79 hP hS => ?_)
          obtain ⟨f9, q79, hR79⟩ := p_79
          refine lv_iinc (v := (nI (mM σ - (q + 1)))) (lv' := [(2, .int (nI (mM σ - (q + 1)))), (0, .ref (fa g v)), (1, .ref (fa g h)), (3, .int (nI i))]) hx hb dX5_findMostWatched_82 hl (k := 2) rfl (by rw [show mM σ - q = (mM σ - (q + 1)) + 1 by omega]; exact pk_m1 _) (by decide) rfl (fun ls hl => ?_)
          refine lv_goto (tgt := 22) hx hb dX5_findMostWatched_85 (by decide) ?_
          exact ih (q + 1) _ _ ls _ (by (try dsimp only); omega) ⟨lv_sub hl [1, 2, 0] rfl, ⟨by rw [q79]; exact (fu_ne (by omega)).trans h_19, f9, by rw [q79]; exact fu_eq _ _ _, hR79⟩, by rw [q79]; exact (fu_ne (by omega)).trans hvn, fun j8 hj8 => by rw [q79]; exact (fu_ne (by omega)).trans (hOn j8 hj8), (fSame.ap (fSame.tr fSame.rf hsn) q79 (by omega) (by omega)), by omega⟩ hP hS
        · rw [nI_leI (by omega) (by omega)] at c_50
          refine lv_aload_n hx hb dX5_findMostWatched_53 rfl (lv_at hl 0 rfl) ?_
          refine lv_iload_n hx hb dX5_findMostWatched_54 rfl (lv_at hl 3 rfl) ?_
          refine lv_aload_n hx hb dX5_findMostWatched_55 rfl (lv_at hl 0 rfl) ?_
          refine fs_get E hP (k := v) (v := .ref (fa g (v + 1))) 0 fc5 hvi (by omega) (by decide) (wm wl_3 (i := 21) rfl) rfl dX5_findMostWatched_56 ?_
          refine fs_getN E hP (k := (v + 1)) (v := .ref (fa g (v + 2))) 1 fc6 h_19 (by omega) (by decide) (j := 17) rfl rfl dX5_findMostWatched_59 ?_
          refine lv_iload_n hx hb dX5_findMostWatched_62 rfl (lv_at hl 3 rfl) ?_
          refine fs_pi (va_runSN (As := [.ref (fa g (v + 2)), .int (nI i)]) (rest := [.int (nI i), .ref (fa g v)]) E.1 (c_X7_watchers l g N ct_17 (v + 2) 6 fw (nI i) (by omega) (by omega) h_20) (lk_RX5_123 E.1.2.2.2.2 (E.2.1.2.1 _ (List.mem_of_getElem? (i := 39) rfl)) ⟨Nat.le_of_ble_eq_true rfl, Nat.le_of_ble_eq_true rfl⟩) (fpreS E hP hS) rfl rfl hl.1 rfl (lv_room (Nat.le_of_ble_eq_true rfl)) dX5_findMostWatched_63 ⟨Nat.zero_le _, Nat.zero_le _⟩) hS (fun r_63 locs p_63 hS => ?_)
          refine fs_vi (y := (nI (cN (fun i2 => decide (wd (nB σ) q i2 = i)) (nB σ)))) (p_63.trans (congrArg nI (hRW.watch hwok hG6 (by omega)))) ?_
          have hcl := cN_lt7 (p := fun i2 => decide (wd (nB σ) q i2 = i)) hG6
          refine fs_v (va_runV (As := [.int (nI i), .int (nI (cN (fun i2 => decide (wd (nB σ) q i2 = i)) (nB σ)))]) (rest := []) E.1 (c_X5_compareWatchers l g N ct_17 v ws (mwP (nB σ) (wd (nB σ) q) (mwQ σ q) i).1 (mwP (nB σ) (wd (nB σ) q) (mwQ σ q) i).2 i (cN (fun i2 => decide (wd (nB σ) q i2 = i)) (nB σ)) hNv (by omega) (by omega) (by omega) (by omega) hvi) (lk_RX5_126 E.1.2.2.2.2 ⟨Nat.le_of_ble_eq_true rfl, Nat.le_of_ble_eq_true rfl⟩) (fpreV E hP hS fc5 hvi (by omega)) rfl rfl hl.1 rfl (lv_room (Nat.le_of_ble_eq_true rfl)) dX5_findMostWatched_66 ⟨Nat.zero_le _, Nat.zero_le _⟩) hS (fun ct_22 H locs p_66 hP hS => ?_)
          refine lv_iinc (v := (nI (i + 1))) (lv' := [(3, .int (nI (i + 1))), (0, .ref (fa g v)), (1, .ref (fa g h)), (2, .int (nI (mM σ - q)))]) hx hb dX5_findMostWatched_69 hl (k := 3) rfl (nI_1 _) (by decide) rfl (fun ls hl => ?_)
          refine lv_goto (tgt := 45) hx hb dX5_findMostWatched_72 (by decide) ?_
          exact ih2 (i + 1) _ _ ls _ (by (try dsimp only); omega) ⟨lv_sub hl [1, 2, 3, 0] rfl, by omega, by rw [p_66]; exact fu_eq _ _ _, fun j8 hj8 => by rw [p_66]; exact (fu_ne (by omega)).trans (hOi j8 hj8)⟩ hP hS
    · refine fs_vi (y := (nI i35)) e35 ?_
      refine lv_bipush (v := (-6)) hx hb dX5_findMostWatched_38 (by decide) ?_
      refine lv_icmp_ne (tgt := 75) hx hb dX5_findMostWatched_40 (by decide) (fun c_40 => ?_) (fun c_40 => ?_)
      · have hbk : okq σ q = false := okq_f hhi35 hba35
        have hvn : ct_16 v = .inr (5, [.ref (fa g (v + 1)), .int ws, .int (nI (mwQ σ (q + 1)).1), .int (nI (mwQ σ (q + 1)).2), .ref (fa g (v + 3)), .ref (fa g (v + 4)), .ref (fa g (v + 5)), .ref (fa g (v + 6))]) := by unfold mwQ; rw [hbk]; exact hv0c
        have hOn := hOt
        have hsn := hsA
        refine lv_aload_n hx hb dX5_findMostWatched_75 rfl (lv_at hl 0 rfl) ?_
        refine fs_get E hP (k := v) (v := .ref (fa g (v + 1))) 0 fc5 hv0c (by omega) (by decide) (wm wl_3 (i := 21) rfl) rfl dX5_findMostWatched_76 ?_
        refine fs_v (va_runV (As := []) (rest := []) E.1 (c_X6_step l g N ct_16 (v + 1) (nB σ) q fw (by omega) hG3 hG6 hqlt hw1 hw2 hRW) (lk_RX5_63 E.1.2.2.2.2 ⟨Nat.le_of_ble_eq_true rfl, Nat.le_of_ble_eq_true rfl⟩) (fpreV E hP hS fc6 hw1 (by omega)) rfl rfl hl.1 rfl (lv_room (Nat.le_of_ble_eq_true rfl)) dX5_findMostWatched_79 ⟨Nat.zero_le _, Nat.zero_le _⟩) hS (fun ct_23 H locs p_79 hP hS => ?_)
        obtain ⟨f9, q79, hR79⟩ := p_79
        refine lv_iinc (v := (nI (mM σ - (q + 1)))) (lv' := [(2, .int (nI (mM σ - (q + 1)))), (0, .ref (fa g v)), (1, .ref (fa g h))]) hx hb dX5_findMostWatched_82 hl (k := 2) rfl (by rw [show mM σ - q = (mM σ - (q + 1)) + 1 by omega]; exact pk_m1 _) (by decide) rfl (fun ls hl => ?_)
        refine lv_goto (tgt := 22) hx hb dX5_findMostWatched_85 (by decide) ?_
        exact ih (q + 1) _ _ ls _ (by (try dsimp only); omega) ⟨lv_sub hl [1, 2, 0] rfl, ⟨by rw [q79]; exact (fu_ne (by omega)).trans hw1, f9, by rw [q79]; exact fu_eq _ _ _, hR79⟩, by rw [q79]; exact (fu_ne (by omega)).trans hvn, fun j8 hj8 => by rw [q79]; exact (fu_ne (by omega)).trans (hOn j8 hj8), (fSame.ap (fSame.tr fSame.rf hsn) q79 (by omega) (by omega)), by omega⟩ hP hS
      · exact absurd c_40 (nI_ne6 (by omega))
