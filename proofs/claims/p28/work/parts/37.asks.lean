theorem LKn_lt {σ : Nat → Int32} (h : Good σ) (p b : Nat) : LKn σ p b < 100000 := by
  have h1 := cN_le (lkq σ p b) (mM σ)
  have h2 := h.M.1
  unfold LKn; omega
theorem SurvSh.upd {g : fG} {ct ct1 : Nat → va_E} {v : Nat} (H : SurvSh g ct v) (hw : WalkSh g ct1 v) (hp : SupSh g ct1 v) (h : ∀ j, j = v ∨ j = v + 3 ∨ j = v + 4 ∨ j = v + 5 → ct1 j = ct j) : SurvSh g ct1 v := by
  obtain ⟨⟨a1, a2, a3, a⟩, ⟨b1, b⟩, ⟨c1, c⟩, ⟨d1, d⟩, -, -⟩ := H
  exact ⟨⟨a1, a2, a3, (h _ (by omega)).trans a⟩, ⟨b1, (h _ (by omega)).trans b⟩, ⟨c1, (h _ (by omega)).trans c⟩, ⟨d1, (h _ (by omega)).trans d⟩, hw, hp⟩
theorem OGx.atk {g : fG} {ct ct1 : Nat → va_E} {sv : Int32} {σ : Nat → Int32} {k : Nat} {hs : Nat → Nat → Int32} {u1 u2 : Bool} {s1 s2 : Nat → Int32} {t : Nat → Nat} {len : Nat} (H : OGx g ct1 sv σ k hs u1 s1 u2 s2 t len) (hsv : sv = nI 0 ∨ (sv = nI 1 ∧ SurvP g ct 232 σ (mM σ))) (h : ∀ j, j = 232 ∨ j = 235 ∨ j = 236 ∨ j = 237 → ct1 j = ct j) : OGAt g ct1 σ k hs u1 s1 u2 s2 t len :=
  ⟨sv, H, hsv.imp id (fun z => ⟨z.1, z.2.keep (h _ (by omega)) (h _ (by omega)) (h _ (by omega)) (h _ (by omega))⟩)⟩
theorem ftab_0_5 {x : Int32} (k0 : ¬ x = nI 0) (k1 : ¬ x = nI 1) (k2 : ¬ x = nI 2) (k3 : ¬ x = nI 3) (k4 : ¬ x = nI 4) (k5 : ¬ x = nI 5) : x.toInt < 0 ∨ 5 < x.toInt := by
  have a0 : ¬ x.toInt = 0 := fun q => k0 ((fn_eq (by omega)).mpr (by omega))
  have a1 : ¬ x.toInt = 1 := fun q => k1 ((fn_eq (by omega)).mpr (by omega))
  have a2 : ¬ x.toInt = 2 := fun q => k2 ((fn_eq (by omega)).mpr (by omega))
  have a3 : ¬ x.toInt = 3 := fun q => k3 ((fn_eq (by omega)).mpr (by omega))
  have a4 : ¬ x.toInt = 4 := fun q => k4 ((fn_eq (by omega)).mpr (by omega))
  have a5 : ¬ x.toInt = 5 := fun q => k5 ((fn_eq (by omega)).mpr (by omega))
  omega
theorem ftab_0_6 {x : Int32} (k0 : ¬ x = nI 0) (k1 : ¬ x = nI 1) (k2 : ¬ x = nI 2) (k3 : ¬ x = nI 3) (k4 : ¬ x = nI 4) (k5 : ¬ x = nI 5) (k6 : ¬ x = nI 6) : x.toInt < 0 ∨ 6 < x.toInt := by
  have a0 : ¬ x.toInt = 0 := fun q => k0 ((fn_eq (by omega)).mpr (by omega))
  have a1 : ¬ x.toInt = 1 := fun q => k1 ((fn_eq (by omega)).mpr (by omega))
  have a2 : ¬ x.toInt = 2 := fun q => k2 ((fn_eq (by omega)).mpr (by omega))
  have a3 : ¬ x.toInt = 3 := fun q => k3 ((fn_eq (by omega)).mpr (by omega))
  have a4 : ¬ x.toInt = 4 := fun q => k4 ((fn_eq (by omega)).mpr (by omega))
  have a5 : ¬ x.toInt = 5 := fun q => k5 ((fn_eq (by omega)).mpr (by omega))
  have a6 : ¬ x.toInt = 6 := fun q => k6 ((fn_eq (by omega)).mpr (by omega))
  omega
theorem ftab_0_10 {x : Int32} (k0 : ¬ x = nI 0) (k1 : ¬ x = nI 1) (k2 : ¬ x = nI 2) (k3 : ¬ x = nI 3) (k4 : ¬ x = nI 4) (k5 : ¬ x = nI 5) (k6 : ¬ x = nI 6) (k7 : ¬ x = nI 7) (k8 : ¬ x = nI 8) (k9 : ¬ x = nI 9) (k10 : ¬ x = nI 10) : x.toInt < 0 ∨ 10 < x.toInt := by
  have a0 : ¬ x.toInt = 0 := fun q => k0 ((fn_eq (by omega)).mpr (by omega))
  have a1 : ¬ x.toInt = 1 := fun q => k1 ((fn_eq (by omega)).mpr (by omega))
  have a2 : ¬ x.toInt = 2 := fun q => k2 ((fn_eq (by omega)).mpr (by omega))
  have a3 : ¬ x.toInt = 3 := fun q => k3 ((fn_eq (by omega)).mpr (by omega))
  have a4 : ¬ x.toInt = 4 := fun q => k4 ((fn_eq (by omega)).mpr (by omega))
  have a5 : ¬ x.toInt = 5 := fun q => k5 ((fn_eq (by omega)).mpr (by omega))
  have a6 : ¬ x.toInt = 6 := fun q => k6 ((fn_eq (by omega)).mpr (by omega))
  have a7 : ¬ x.toInt = 7 := fun q => k7 ((fn_eq (by omega)).mpr (by omega))
  have a8 : ¬ x.toInt = 8 := fun q => k8 ((fn_eq (by omega)).mpr (by omega))
  have a9 : ¬ x.toInt = 9 := fun q => k9 ((fn_eq (by omega)).mpr (by omega))
  have a10 : ¬ x.toInt = 10 := fun q => k10 ((fn_eq (by omega)).mpr (by omega))
  omega

set_option maxRecDepth 100000 in
set_option maxHeartbeats 4000000 in
theorem c_X7_pointsOfGuess (l : Launch) (g : fG) (N : Nat) (ct : Nat → va_E) (sv : Int32) (σ : Nat → Int32) (k : Nat) (hs : Nat → Nat → Int32) (u1 : Bool) (s1 : Nat → Int32) (u2 : Bool) (s2 : Nat → Int32) (t : Nat → Nat) (len : Nat) (hN : 239 ≤ N) (hO1 : OGx g ct sv σ k hs u1 s1 u2 s2 t len) (hSP : SurvP g ct 232 σ (mM σ)) (p0 q0 : Nat) (hp0 : p0 < nB σ) (hq0 : q0 < nB σ) : Met l yX7_pointsOfGuess (wsU yX7_pointsOfGuess cX7_pointsOfGuess 4 (some .int)) rX7_pointsOfGuess (fPre g N ct [.ref (fa g 0), .ref (fa g 232), .int (nI p0), .int (nI q0)]) (fQpi (fun r => r = ptF σ p0 q0)) 0 0 (fB g) := by
  refine fs_start (own := RX7) (lv0 := [(0, .ref (fa g 0)), (1, .ref (fa g 232)), (2, .int (nI p0)), (3, .int (nI q0))]) (by decide) rfl (Nat.le_of_ble_eq_true rfl) rfl ?_
  intro p e s m args below meth c ls E hr hlk hnm hP hl hS
  have hx := E.1.1
  have hb := E.1.2.1
  obtain ⟨o_1x, o_1H, o_1G, o_1Y, o_11, o_12, o_1P, o_1V⟩ := id (hO1)
  have o_1n3 := o_1G.n3
  have o_1n6 := o_1G.n6
  have o_1k := o_1G.k
  obtain ⟨o_1h0, ⟨o_1fl, o_1hl, o_1lw⟩, ⟨o_1fs, o_1hs, o_1sw⟩, ⟨o_1fg, o_1hg, o_1gw⟩, ⟨o_1fr, o_1hr, o_1rw⟩, o_1ru⟩ := id o_1H
  obtain ⟨o_1n, o_1nl, o_1y0, o_1k6, -, -, -⟩ := id o_1Y
  obtain ⟨⟨o_1mp, o_1mw, o_1v0⟩, ⟨o_1fv, o_1v3, o_1vw⟩, ⟨o_1fo, o_1v4, o_1ow⟩, ⟨o_1fb, o_1v5, o_1bw⟩⟩ := id (hSP)
  have o_1p0 := o_1P.1
  have o_1p60 := o_1P.2.2.1
  have o_1a0 := o_11.1
  have o_1b0 := o_12.1
  have hlkq := (o_1G.2.2.1 p0 hp0).2.1
  have hLK := LKn_lt o_1G p0 q0
  refine lv_aload_n hx hb dX7_pointsOfGuess_0 rfl (lv_at hl 0 rfl) ?_
  refine fs_get E hP (k := 0) (v := .ref (fa g 1)) 0 fc7 o_1x (by omega) (by decide) (wm wl_1 (i := 13) rfl) rfl dX7_pointsOfGuess_1 ?_
  refine fs_getN E hP (k := 1) (v := .ref (fa g 2)) 3 fc1 o_1h0 (by omega) (by decide) (j := 12) rfl rfl dX7_pointsOfGuess_4 ?_
  refine lv_iload_n hx hb dX7_pointsOfGuess_7 rfl (lv_at hl 2 rfl) ?_
  refine fs_pi (va_runS (As := [.ref (fa g 2), .int (nI p0)]) (rest := []) E.1 (c_X7_at l g N ct 2 6 o_1fl (nI p0) (by omega) (by omega) o_1hl) (lk_RX7_66 E.1.2.2.2.2 ⟨Nat.le_of_ble_eq_true rfl, Nat.le_of_ble_eq_true rfl⟩) (fpreS E hP hS) rfl rfl hl.1 rfl (lv_room (Nat.le_of_ble_eq_true rfl)) dX7_pointsOfGuess_8 ⟨Nat.zero_le _, Nat.zero_le _⟩) hS (fun r_8 locs p_8 hS => ?_)
  refine fs_vi (y := (nI (lkf σ p0))) (p_8.trans ((atF_in (by omega) (by omega)).trans (o_1lw.in hp0 (by omega)))) ?_
  refine lv_iload_n hx hb dX7_pointsOfGuess_11 rfl (lv_at hl 3 rfl) ?_
  refine lv_icmp_ne (tgt := 34) hx hb dX7_pointsOfGuess_12 (by decide) (fun c_12 => ?_) (fun c_12 => ?_)
  · rw [nI_eq (by omega) (by omega)] at c_12
    refine lv_aload_n hx hb dX7_pointsOfGuess_34 rfl (lv_at hl 1 rfl) ?_
    refine lv_aload_n hx hb dX7_pointsOfGuess_35 rfl (lv_at hl 1 rfl) ?_
    refine lv_iload_n hx hb dX7_pointsOfGuess_36 rfl (lv_at hl 2 rfl) ?_
    refine lv_iload_n hx hb dX7_pointsOfGuess_37 rfl (lv_at hl 3 rfl) ?_
    refine fs_pi (va_runV (As := [.int (nI p0), .int (nI q0)]) (rest := [.ref (fa g 232)]) E.1 (c_X5_lookingAt l g N ct 232 σ p0 q0 (by omega) (by omega) (by omega) o_1G hSP) (lk_RX7_211 E.1.2.2.2.2 ⟨Nat.le_of_ble_eq_true rfl, Nat.le_of_ble_eq_true rfl⟩) (fpreV E hP hS fc5 o_1v0 (by omega)) rfl rfl hl.1 rfl (lv_room (Nat.le_of_ble_eq_true rfl)) dX7_pointsOfGuess_38 ⟨Nat.zero_le _, Nat.zero_le _⟩) hS (fun r_38 locs p_38 hS => ?_)
    refine fs_vi (y := (nI (LKn σ p0 q0))) p_38 ?_
    refine fs_pi (va_runV (As := [.int (nI (LKn σ p0 q0))]) (rest := []) E.1 (c_X5_isRuledOut l g N ct 232 σ (LKn σ p0 q0) (by omega) (by omega) o_1G hSP) (lk_RX7_287 E.1.2.2.2.2 ⟨Nat.le_of_ble_eq_true rfl, Nat.le_of_ble_eq_true rfl⟩) (fpreV E hP hS fc5 o_1v0 (by omega)) rfl rfl hl.1 rfl (lv_room (Nat.le_of_ble_eq_true rfl)) dX7_pointsOfGuess_41 ⟨Nat.zero_le _, Nat.zero_le _⟩) hS (fun r_41 locs p_41 hS => ?_)
    refine lv_if_eq (tgt := 52) hx hb dX7_pointsOfGuess_44 (by decide) (fun c_44 => ?_) (fun c_44 => ?_)
    · have c_44 := (fb_0 p_41).mp c_44
      refine lv_bipush (v := (-2)) hx hb dX7_pointsOfGuess_52 (by decide) ?_
      refine fs_piret E hr hlk hS dX7_pointsOfGuess_54 ?_
      unfold ptF; rw [if_neg c_12, if_neg c_44]
    · have c_44 := (fb_1 p_41).mp c_44
      refine lv_bipush (v := (-4)) hx hb dX7_pointsOfGuess_47 (by decide) ?_
      refine lv_goto (tgt := 54) hx hb dX7_pointsOfGuess_49 (by decide) ?_
      refine fs_piret E hr hlk hS dX7_pointsOfGuess_54 ?_
      unfold ptF; rw [if_neg c_12, if_pos c_44]
  · rw [nI_eq (by omega) (by omega)] at c_12
    refine lv_aload_n hx hb dX7_pointsOfGuess_15 rfl (lv_at hl 1 rfl) ?_
    refine lv_aload_n hx hb dX7_pointsOfGuess_16 rfl (lv_at hl 1 rfl) ?_
    refine lv_iload_n hx hb dX7_pointsOfGuess_17 rfl (lv_at hl 2 rfl) ?_
    refine lv_iload_n hx hb dX7_pointsOfGuess_18 rfl (lv_at hl 3 rfl) ?_
    refine fs_pi (va_runV (As := [.int (nI p0), .int (nI q0)]) (rest := [.ref (fa g 232)]) E.1 (c_X5_lookingAt l g N ct 232 σ p0 q0 (by omega) (by omega) (by omega) o_1G hSP) (lk_RX7_211 E.1.2.2.2.2 ⟨Nat.le_of_ble_eq_true rfl, Nat.le_of_ble_eq_true rfl⟩) (fpreV E hP hS fc5 o_1v0 (by omega)) rfl rfl hl.1 rfl (lv_room (Nat.le_of_ble_eq_true rfl)) dX7_pointsOfGuess_19 ⟨Nat.zero_le _, Nat.zero_le _⟩) hS (fun r_19 locs p_19 hS => ?_)
    refine fs_vi (y := (nI (LKn σ p0 q0))) p_19 ?_
    refine fs_pi (va_runV (As := [.int (nI (LKn σ p0 q0))]) (rest := []) E.1 (c_X5_isCertain l g N ct 232 σ (LKn σ p0 q0) (by omega) (by omega) o_1G hSP) (lk_RX7_284 E.1.2.2.2.2 ⟨Nat.le_of_ble_eq_true rfl, Nat.le_of_ble_eq_true rfl⟩) (fpreV E hP hS fc5 o_1v0 (by omega)) rfl rfl hl.1 rfl (lv_room (Nat.le_of_ble_eq_true rfl)) dX7_pointsOfGuess_22 ⟨Nat.zero_le _, Nat.zero_le _⟩) hS (fun r_22 locs p_22 hS => ?_)
    refine lv_if_eq (tgt := 32) hx hb dX7_pointsOfGuess_25 (by decide) (fun c_25 => ?_) (fun c_25 => ?_)
    · have c_25 := (fb_0 p_22).mp c_25
      refine lv_iconst (v := (nI 5)) hx hb dX7_pointsOfGuess_32 (by decide) ?_
      refine fs_piret E hr hlk hS dX7_pointsOfGuess_33 ?_
      unfold ptF; rw [if_pos c_12, if_neg c_25]; rfl
    · have c_25 := (fb_1 p_22).mp c_25
      refine lv_iconst (v := (nI 3)) hx hb dX7_pointsOfGuess_28 (by decide) ?_
      refine lv_goto (tgt := 33) hx hb dX7_pointsOfGuess_29 (by decide) ?_
      refine fs_piret E hr hlk hS dX7_pointsOfGuess_33 ?_
      unfold ptF; rw [if_pos c_12, if_pos c_25]; rfl

set_option maxRecDepth 100000 in
set_option maxHeartbeats 4000000 in
theorem c_X7_guess (l : Launch) (g : fG) (N : Nat) (ct : Nat → va_E) (σ : Nat → Int32) (k : Nat) (hs : Nat → Nat → Int32) (u1 : Bool) (s1 : Nat → Int32) (u2 : Bool) (s2 : Nat → Int32) (t : Nat → Nat) (len : Nat) (hN : 239 ≤ N) (hO : OGAt g ct σ k hs u1 s1 u2 s2 t len) (x y z : Int32) : Met l yX7_guess (wsU yX7_guess cX7_guess 5 (some .int)) rX7_guess (fPre g N ct [.ref (fa g 0), .int x, .int y, .int z]) (fQi g N (fun r ct1 => r = (if (hbx σ x ∧ hbx σ y) ∧ hbx σ z then (if x = y ∨ y = z then -2 else if ¬ σ (15 + x.toNatClampNeg) = 0 then -5 else nI 1000 + (σ (9 + x.toNatClampNeg) + ptF σ y.toNatClampNeg z.toNatClampNeg)) else -1) ∧ OGc g ct1 (((hbx σ x ∧ hbx σ y) ∧ hbx σ z) ∧ ¬ (x = y ∨ y = z) ∧ σ (15 + x.toNatClampNeg) = 0) (upd (upd σ (9 + x.toNatClampNeg) (σ (9 + x.toNatClampNeg) + ptF σ y.toNatClampNeg z.toNatClampNeg)) (15 + x.toNatClampNeg) (nI 1)) σ k hs u1 s1 u2 s2 t len ∧ fSame 0 239 ct ct1)) 0 0 (fB g) := by
  refine fs_start (own := RX7) (lv0 := [(0, .ref (fa g 0)), (1, .int x), (2, .int y), (3, .int z)]) (by decide) rfl (Nat.le_of_ble_eq_true rfl) rfl ?_
  intro p e s m args below meth c ls E hr hlk hnm hP hl hS
  have hx := E.1.1
  have hb := E.1.2.1
  obtain ⟨sv, hO1, hsv⟩ := id hO
  obtain ⟨o_1x, o_1H, o_1G, o_1Y, o_11, o_12, o_1P, o_1V⟩ := id (hO1)
  have o_1n3 := o_1G.n3
  have o_1n6 := o_1G.n6
  have o_1k := o_1G.k
  obtain ⟨o_1h0, ⟨o_1fl, o_1hl, o_1lw⟩, ⟨o_1fs, o_1hs, o_1sw⟩, ⟨o_1fg, o_1hg, o_1gw⟩, ⟨o_1fr, o_1hr, o_1rw⟩, o_1ru⟩ := id o_1H
  obtain ⟨o_1n, o_1nl, o_1y0, o_1k6, -, -, -⟩ := id o_1Y
  obtain ⟨⟨o_1ws, o_1mp, o_1mw, o_1v0⟩, -⟩ := id o_1V
  have o_1p0 := o_1P.1
  have o_1p60 := o_1P.2.2.1
  have o_1a0 := o_11.1
  have o_1b0 := o_12.1
  refine lv_aload_n hx hb dX7_guess_0 rfl (lv_at hl 0 rfl) ?_
  refine fs_get E hP (k := 0) (v := .ref (fa g 1)) 0 fc7 o_1x (by omega) (by decide) (wm wl_1 (i := 13) rfl) rfl dX7_guess_1 ?_
  refine lv_iload_n hx hb dX7_guess_4 rfl (lv_at hl 1 rfl) ?_
  refine fs_pi (va_runV (As := [.int x]) (rest := []) E.1 (c_X1_hasBox l g N ct 1 (nB σ) (nT σ) (σ 2) 2 3 4 5 (by omega) o_1h0 x (by omega)) (lk_RX7_58 E.1.2.2.2.2 ⟨Nat.le_of_ble_eq_true rfl, Nat.le_of_ble_eq_true rfl⟩) (fpreV E hP hS fc1 o_1h0 (by omega)) rfl rfl hl.1 rfl (lv_room (Nat.le_of_ble_eq_true rfl)) dX7_guess_5 ⟨Nat.zero_le _, Nat.zero_le _⟩) hS (fun r_5 locs p_5 hS => ?_)
  refine lv_if_eq (tgt := 33) hx hb dX7_guess_8 (by decide) (fun c_8 => ?_) (fun c_8 => ?_)
  · have c_8 := (fb_0 p_5).mp c_8
    refine lv_iconst (v := (-1)) hx hb dX7_guess_33 (by decide) ?_
    refine fs_iret E hr hlk hP hS dX7_guess_34 ?_
    refine ⟨?_, OGc_f (fun z => by have := z.1; omega) hO, fSame.rf⟩
    rw [if_neg (fun z => by omega)]
  · have c_8 := (fb_1 p_5).mp c_8
    refine lv_aload_n hx hb dX7_guess_11 rfl (lv_at hl 0 rfl) ?_
    refine fs_get E hP (k := 0) (v := .ref (fa g 1)) 0 fc7 o_1x (by omega) (by decide) (wm wl_1 (i := 13) rfl) rfl dX7_guess_12 ?_
    refine lv_iload_n hx hb dX7_guess_15 rfl (lv_at hl 2 rfl) ?_
    refine fs_pi (va_runV (As := [.int y]) (rest := []) E.1 (c_X1_hasBox l g N ct 1 (nB σ) (nT σ) (σ 2) 2 3 4 5 (by omega) o_1h0 y (by omega)) (lk_RX7_58 E.1.2.2.2.2 ⟨Nat.le_of_ble_eq_true rfl, Nat.le_of_ble_eq_true rfl⟩) (fpreV E hP hS fc1 o_1h0 (by omega)) rfl rfl hl.1 rfl (lv_room (Nat.le_of_ble_eq_true rfl)) dX7_guess_16 ⟨Nat.zero_le _, Nat.zero_le _⟩) hS (fun r_16 locs p_16 hS => ?_)
    refine lv_if_eq (tgt := 33) hx hb dX7_guess_19 (by decide) (fun c_19 => ?_) (fun c_19 => ?_)
    · have c_19 := (fb_0 p_16).mp c_19
      refine lv_iconst (v := (-1)) hx hb dX7_guess_33 (by decide) ?_
      refine fs_iret E hr hlk hP hS dX7_guess_34 ?_
      refine ⟨?_, OGc_f (fun z => by have := z.1; omega) hO, fSame.rf⟩
      rw [if_neg (fun z => by omega)]
    · have c_19 := (fb_1 p_16).mp c_19
      refine lv_aload_n hx hb dX7_guess_22 rfl (lv_at hl 0 rfl) ?_
      refine fs_get E hP (k := 0) (v := .ref (fa g 1)) 0 fc7 o_1x (by omega) (by decide) (wm wl_1 (i := 13) rfl) rfl dX7_guess_23 ?_
      refine lv_iload_n hx hb dX7_guess_26 rfl (lv_at hl 3 rfl) ?_
      refine fs_pi (va_runV (As := [.int z]) (rest := []) E.1 (c_X1_hasBox l g N ct 1 (nB σ) (nT σ) (σ 2) 2 3 4 5 (by omega) o_1h0 z (by omega)) (lk_RX7_58 E.1.2.2.2.2 ⟨Nat.le_of_ble_eq_true rfl, Nat.le_of_ble_eq_true rfl⟩) (fpreV E hP hS fc1 o_1h0 (by omega)) rfl rfl hl.1 rfl (lv_room (Nat.le_of_ble_eq_true rfl)) dX7_guess_27 ⟨Nat.zero_le _, Nat.zero_le _⟩) hS (fun r_27 locs p_27 hS => ?_)
      refine lv_if_ne (tgt := 35) hx hb dX7_guess_30 (by decide) (fun c_30 => ?_) (fun c_30 => ?_)
      · have c_30 := (fb_1 p_27).mp c_30
        refine lv_iload_n hx hb dX7_guess_35 rfl (lv_at hl 1 rfl) ?_
        refine lv_iload_n hx hb dX7_guess_36 rfl (lv_at hl 2 rfl) ?_
        refine lv_icmp_eq (tgt := 45) hx hb dX7_guess_37 (by decide) (fun c_37 => ?_) (fun c_37 => ?_)
        · refine lv_bipush (v := (-2)) hx hb dX7_guess_45 (by decide) ?_
          refine fs_iret E hr hlk hP hS dX7_guess_47 ?_
          refine ⟨?_, OGc_f (fun z => z.2.1 (Or.inl c_37)) hO, fSame.rf⟩
          rw [if_pos ⟨⟨c_8, c_19⟩, c_30⟩, if_pos (Or.inl c_37)]
        · refine lv_iload_n hx hb dX7_guess_40 rfl (lv_at hl 2 rfl) ?_
          refine lv_iload_n hx hb dX7_guess_41 rfl (lv_at hl 3 rfl) ?_
          refine lv_icmp_ne (tgt := 48) hx hb dX7_guess_42 (by decide) (fun c_42 => ?_) (fun c_42 => ?_)
          · obtain ⟨p0, hp0, rfl⟩ := fex c_8.1 c_8.2
            obtain ⟨q0, hq0, rfl⟩ := fex c_19.1 c_19.2
            obtain ⟨b0, hb0, rfl⟩ := fex c_30.1 c_30.2
            refine lv_aload_n hx hb dX7_guess_48 rfl (lv_at hl 0 rfl) ?_
            refine fs_get E hP (k := 0) (v := .ref (fa g 1)) 0 fc7 o_1x (by omega) (by decide) (wm wl_1 (i := 13) rfl) rfl dX7_guess_49 ?_
            refine fs_getN E hP (k := 1) (v := .ref (fa g 4)) 5 fc1 o_1h0 (by omega) (by decide) (j := 14) rfl rfl dX7_guess_52 ?_
            refine lv_iload_n hx hb dX7_guess_55 rfl (lv_at hl 1 rfl) ?_
            refine fs_pi (va_runS (As := [.ref (fa g 4), .int (nI p0)]) (rest := []) E.1 (c_X7_at l g N ct 4 6 o_1fg (nI p0) (by omega) (by omega) o_1hg) (lk_RX7_66 E.1.2.2.2.2 ⟨Nat.le_of_ble_eq_true rfl, Nat.le_of_ble_eq_true rfl⟩) (fpreS E hP hS) rfl rfl hl.1 rfl (lv_room (Nat.le_of_ble_eq_true rfl)) dX7_guess_56 ⟨Nat.zero_le _, Nat.zero_le _⟩) hS (fun r_56 locs p_56 hS => ?_)
            refine fs_vi (y := (σ (15 + p0))) (p_56.trans ((atF_in (by omega) (by omega)).trans (o_1gw p0 (by omega)))) ?_
            refine lv_if_eq (tgt := 65) hx hb dX7_guess_59 (by decide) (fun c_59 => ?_) (fun c_59 => ?_)
            · refine lv_aload_n hx hb dX7_guess_65 rfl (lv_at hl 0 rfl) ?_
              refine lv_aload_n hx hb dX7_guess_66 rfl (lv_at hl 0 rfl) ?_
              refine fs_r (va_runV (As := []) (rest := [.ref (fa g 0)]) E.1 (c_X7_surveyNow l g N ct σ k hs u1 s1 u2 s2 t len (by omega) hO) (lk_RX7_131 E.1.2.2.2.2 ⟨Nat.le_of_ble_eq_true rfl, Nat.le_of_ble_eq_true rfl⟩) (fpreV E hP hS fc7 o_1x (by omega)) rfl rfl hl.1 rfl (lv_room (Nat.le_of_ble_eq_true rfl)) dX7_guess_67 ⟨Nat.zero_le _, Nat.zero_le _⟩) hS (fun r_67 ct_2 H locs p_67 hP hS => ?_)
              refine fs_vv (y := .ref (fa g 232)) p_67.1 ?_
              obtain ⟨o_3x, o_3H, o_3G, o_3Y, o_31, o_32, o_3P, o_3V⟩ := id (p_67.2.1)
              have o_3n3 := o_3G.n3
              have o_3n6 := o_3G.n6
              have o_3k := o_3G.k
              obtain ⟨o_3h0, ⟨o_3fl, o_3hl, o_3lw⟩, ⟨o_3fs, o_3hs, o_3sw⟩, ⟨o_3fg, o_3hg, o_3gw⟩, ⟨o_3fr, o_3hr, o_3rw⟩, o_3ru⟩ := id o_3H
              obtain ⟨o_3n, o_3nl, o_3y0, o_3k6, -, -, -⟩ := id o_3Y
              obtain ⟨⟨o_3mp, o_3mw, o_3v0⟩, ⟨o_3fv, o_3v3, o_3vw⟩, ⟨o_3fo, o_3v4, o_3ow⟩, ⟨o_3fb, o_3v5, o_3bw⟩⟩ := id (p_67.2.2.1)
              have o_3p0 := o_3P.1
              have o_3p60 := o_3P.2.2.1
              have o_3a0 := o_31.1
              have o_3b0 := o_32.1
              refine lv_iload_n hx hb dX7_guess_70 rfl (lv_at hl 2 rfl) ?_
              refine lv_iload_n hx hb dX7_guess_71 rfl (lv_at hl 3 rfl) ?_
              refine fs_pi (va_runV (As := [.ref (fa g 232), .int (nI q0), .int (nI b0)]) (rest := []) E.1 (c_X7_pointsOfGuess l g N ct_2 (nI 1) σ k hs u1 s1 u2 s2 t len (by omega) p_67.2.1 p_67.2.2.1 q0 b0 hq0 hb0) (lk_RX7_144 E.1.2.2.2.2 ⟨Nat.le_of_ble_eq_true rfl, Nat.le_of_ble_eq_true rfl⟩) (fpreV E hP hS fc7 o_3x (by omega)) rfl rfl hl.1 rfl (lv_room (Nat.le_of_ble_eq_true rfl)) dX7_guess_72 ⟨Nat.zero_le _, Nat.zero_le _⟩) hS (fun r_72 locs p_72 hS => ?_)
              refine fs_vi (y := (ptF σ q0 b0)) p_72 ?_
              refine lv_istore (lv' := [(4, .int (ptF σ q0 b0)), (0, .ref (fa g 0)), (1, .int (nI p0)), (2, .int (nI q0)), (3, .int (nI b0))]) hx hb dX7_guess_75 hl (by decide) rfl (fun ls hl => ?_)
              refine lv_aload_n hx hb dX7_guess_77 rfl (lv_at hl 1 rfl) ?_
              refine fs_v (va_runV (As := []) (rest := []) E.1 (c_X7_beginChange l g N ct_2 (nI 1) σ k hs u1 s1 u2 s2 t len (by omega) p_67.2.1) (lk_RX7_55 E.1.2.2.2.2 ⟨Nat.le_of_ble_eq_true rfl, Nat.le_of_ble_eq_true rfl⟩) (fpreV E hP hS fc7 o_3x (by omega)) rfl rfl hl.1 rfl (lv_room (Nat.le_of_ble_eq_true rfl)) dX7_guess_78 ⟨Nat.zero_le _, Nat.zero_le _⟩) hS (fun ct_4 H locs p_78 hP hS => ?_)
              obtain ⟨o_5x, o_5H, o_5G, o_5Y, o_51, o_52, o_5P, o_5V⟩ := id (p_78.1)
              have o_5n3 := o_5G.n3
              have o_5n6 := o_5G.n6
              have o_5k := o_5G.k
              obtain ⟨o_5h0, ⟨o_5fl, o_5hl, o_5lw⟩, ⟨o_5fs, o_5hs, o_5sw⟩, ⟨o_5fg, o_5hg, o_5gw⟩, ⟨o_5fr, o_5hr, o_5rw⟩, o_5ru⟩ := id o_5H
              obtain ⟨o_5n, o_5nl, o_5y0, o_5k6, -, -, -⟩ := id o_5Y
              obtain ⟨⟨o_5ws, o_5mp, o_5mw, o_5v0⟩, -⟩ := id o_5V
              have o_5p0 := o_5P.1
              have o_5p60 := o_5P.2.2.1
              have o_5a0 := o_51.1
              have o_5b0 := o_52.1
              refine lv_aload_n hx hb dX7_guess_81 rfl (lv_at hl 1 rfl) ?_
              refine fs_get E hP (k := 0) (v := .ref (fa g 1)) 0 fc7 o_5x (by omega) (by decide) (wm wl_1 (i := 13) rfl) rfl dX7_guess_82 ?_
              refine fs_getN E hP (k := 1) (v := .ref (fa g 3)) 4 fc1 o_5h0 (by omega) (by decide) (j := 13) rfl rfl dX7_guess_85 ?_
              refine lv_iload_n hx hb dX7_guess_88 rfl (lv_at hl 2 rfl) ?_
              refine lv_iload hx hb dX7_guess_89 (lv_at hl 0 rfl) ?_
              refine fs_v (va_runS (As := [.ref (fa g 3), .int (nI p0), .int (ptF σ q0 b0)]) (rest := []) E.1 (c_X7_addAt l g N ct_4 3 6 o_5fs (nI p0) (ptF σ q0 b0) (by omega) (by omega) o_5hs) (lk_RX7_151 E.1.2.2.2.2 ⟨Nat.le_of_ble_eq_true rfl, Nat.le_of_ble_eq_true rfl⟩) (fpreS E hP hS) rfl rfl hl.1 rfl (lv_room (Nat.le_of_ble_eq_true rfl)) dX7_guess_91 ⟨Nat.zero_le _, Nat.zero_le _⟩) hS (fun ct_6 H locs p_91 hP hS => ?_)
              rw [stF_in (by omega) (by omega), nI_cl (show p0 < 1000000 by omega), o_5sw p0 (by omega)] at p_91
              have sm_8 : fSame 1 26 ct_4 ct_6 := by rw [p_91]; exact fSame.up (by omega) (by omega)
              have og_7 := OGx.house p_78.1 (HouseAt.score o_5H (by omega) o_5hs p_91) (Good_score o_5G (by omega)) sm_8
              obtain ⟨o_9x, o_9H, o_9G, o_9Y, o_91, o_92, o_9P, o_9V⟩ := id (og_7)
              have o_9n3 := o_9G.n3
              have o_9n6 := o_9G.n6
              have o_9k := o_9G.k
              obtain ⟨o_9h0, ⟨o_9fl, o_9hl, o_9lw⟩, ⟨o_9fs, o_9hs, o_9sw⟩, ⟨o_9fg, o_9hg, o_9gw⟩, ⟨o_9fr, o_9hr, o_9rw⟩, o_9ru⟩ := id o_9H
              obtain ⟨o_9n, o_9nl, o_9y0, o_9k6, -, -, -⟩ := id o_9Y
              obtain ⟨⟨o_9ws, o_9mp, o_9mw, o_9v0⟩, -⟩ := id o_9V
              have o_9p0 := o_9P.1
              have o_9p60 := o_9P.2.2.1
              have o_9a0 := o_91.1
              have o_9b0 := o_92.1
              refine lv_aload_n hx hb dX7_guess_94 rfl (lv_at hl 1 rfl) ?_
              refine fs_get E hP (k := 0) (v := .ref (fa g 1)) 0 fc7 o_9x (by omega) (by decide) (wm wl_1 (i := 13) rfl) rfl dX7_guess_95 ?_
              refine fs_getN E hP (k := 1) (v := .ref (fa g 4)) 5 fc1 o_9h0 (by omega) (by decide) (j := 14) rfl rfl dX7_guess_98 ?_
              refine lv_iload_n hx hb dX7_guess_101 rfl (lv_at hl 2 rfl) ?_
              refine lv_iconst (v := (nI 1)) hx hb dX7_guess_102 (by decide) ?_
              refine fs_v (va_runS (As := [.ref (fa g 4), .int (nI p0), .int (nI 1)]) (rest := []) E.1 (c_X7_setAt l g N ct_6 4 6 o_9fg (nI p0) (nI 1) (by omega) (by omega) o_9hg) (lk_RX7_70 E.1.2.2.2.2 ⟨Nat.le_of_ble_eq_true rfl, Nat.le_of_ble_eq_true rfl⟩) (fpreS E hP hS) rfl rfl hl.1 rfl (lv_room (Nat.le_of_ble_eq_true rfl)) dX7_guess_103 ⟨Nat.zero_le _, Nat.zero_le _⟩) hS (fun ct_10 H locs p_103 hP hS => ?_)
              rw [stF_in (by omega) (by omega)] at p_103
              have sm_12 : fSame 1 26 ct_6 ct_10 := by rw [p_103]; exact fSame.up (by omega) (by omega)
              have og_11 := OGx.house og_7 (HouseAt.guess o_9H (by omega) o_9hg p_103) (Good_guess o_9G (by omega)) sm_12
              obtain ⟨o_13x, o_13H, o_13G, o_13Y, o_131, o_132, o_13P, o_13V⟩ := id (og_11)
              have o_13n3 := o_13G.n3
              have o_13n6 := o_13G.n6
              have o_13k := o_13G.k
              obtain ⟨o_13h0, ⟨o_13fl, o_13hl, o_13lw⟩, ⟨o_13fs, o_13hs, o_13sw⟩, ⟨o_13fg, o_13hg, o_13gw⟩, ⟨o_13fr, o_13hr, o_13rw⟩, o_13ru⟩ := id o_13H
              obtain ⟨o_13n, o_13nl, o_13y0, o_13k6, -, -, -⟩ := id o_13Y
              obtain ⟨⟨o_13ws, o_13mp, o_13mw, o_13v0⟩, -⟩ := id o_13V
              have o_13p0 := o_13P.1
              have o_13p60 := o_13P.2.2.1
              have o_13a0 := o_131.1
              have o_13b0 := o_132.1
              refine lv_sipush (v := (nI 1000)) hx hb dX7_guess_106 (by decide) ?_
              refine lv_aload_n hx hb dX7_guess_109 rfl (lv_at hl 1 rfl) ?_
              refine fs_get E hP (k := 0) (v := .ref (fa g 1)) 0 fc7 o_13x (by omega) (by decide) (wm wl_1 (i := 13) rfl) rfl dX7_guess_110 ?_
              refine fs_getN E hP (k := 1) (v := .ref (fa g 3)) 4 fc1 o_13h0 (by omega) (by decide) (j := 13) rfl rfl dX7_guess_113 ?_
              refine lv_iload_n hx hb dX7_guess_116 rfl (lv_at hl 2 rfl) ?_
              refine fs_pi (va_runS (As := [.ref (fa g 3), .int (nI p0)]) (rest := [.int (nI 1000)]) E.1 (c_X7_at l g N ct_10 3 6 o_13fs (nI p0) (by omega) (by omega) o_13hs) (lk_RX7_66 E.1.2.2.2.2 ⟨Nat.le_of_ble_eq_true rfl, Nat.le_of_ble_eq_true rfl⟩) (fpreS E hP hS) rfl rfl hl.1 rfl (lv_room (Nat.le_of_ble_eq_true rfl)) dX7_guess_117 ⟨Nat.zero_le _, Nat.zero_le _⟩) hS (fun r_117 locs p_117 hS => ?_)
              refine fs_vi (y := ((upd (upd σ (9 + p0) (σ (9 + p0) + ptF σ q0 b0)) (15 + p0) (nI 1)) (9 + p0))) (p_117.trans ((atF_in (by omega) (by omega)).trans (o_13sw p0 (by omega)))) ?_
              refine lv_iadd hx hb dX7_guess_120 ?_
              refine fs_iret E hr hlk hP hS dX7_guess_121 ?_
              rw [nI_cl (show p0 < 1000000 by omega)]
              rw [nI_cl (show q0 < 1000000 by omega)]
              rw [nI_cl (show b0 < 1000000 by omega)]
              refine ⟨?_, OGc_t ⟨⟨⟨c_8, c_19⟩, c_30⟩, fun z => z.elim c_37 c_42, c_59⟩ (OGx.at0 og_11), (show fSame 0 239 _ _ from (fSame.tr2 (fSame.tr2 (fSame.tr2 (fSame.tr2 fSame.rf p_67.2.2.2 (by omega) (by omega)) p_78.2 (by omega) (by omega)) sm_8 (by omega) (by omega)) sm_12 (by omega) (by omega)))⟩
              rw [if_pos ⟨⟨c_8, c_19⟩, c_30⟩, if_neg (fun z => z.elim c_37 c_42), if_neg (fun z => z c_59), upd_ne (by omega), upd_eq]
            · refine lv_bipush (v := (-5)) hx hb dX7_guess_62 (by decide) ?_
              refine fs_iret E hr hlk hP hS dX7_guess_64 ?_
              rw [nI_cl (show p0 < 1000000 by omega)]
              refine ⟨?_, OGc_f (fun z => c_59 z.2.2) hO, fSame.rf⟩
              rw [if_pos ⟨⟨c_8, c_19⟩, c_30⟩, if_neg (fun z => z.elim c_37 c_42), if_pos c_59]
          · refine lv_bipush (v := (-2)) hx hb dX7_guess_45 (by decide) ?_
            refine fs_iret E hr hlk hP hS dX7_guess_47 ?_
            refine ⟨?_, OGc_f (fun z => z.2.1 (Or.inr c_42)) hO, fSame.rf⟩
            rw [if_pos ⟨⟨c_8, c_19⟩, c_30⟩, if_pos (Or.inr c_42)]
      · have c_30 := (fb_0 p_27).mp c_30
        refine lv_iconst (v := (-1)) hx hb dX7_guess_33 (by decide) ?_
        refine fs_iret E hr hlk hP hS dX7_guess_34 ?_
        refine ⟨?_, OGc_f (fun z => by have := z.1; omega) hO, fSame.rf⟩
        rw [if_neg (fun z => by omega)]

set_option maxRecDepth 100000 in
set_option maxHeartbeats 4000000 in
theorem c_X7_person (l : Launch) (g : fG) (N : Nat) (ct : Nat → va_E) (σ : Nat → Int32) (k : Nat) (hs : Nat → Nat → Int32) (u1 : Bool) (s1 : Nat → Int32) (u2 : Bool) (s2 : Nat → Int32) (t : Nat → Nat) (len : Nat) (hN : 239 ≤ N) (hO : OGAt g ct σ k hs u1 s1 u2 s2 t len) (x y : Int32) : Met l yX7_person (wsU yX7_person cX7_person 3 (some .int)) rX7_person (fPre g N ct [.ref (fa g 0), .int x, .int y]) (fQpi (fun r => r = (if hbx σ x then psF σ x.toNatClampNeg y else -1))) 0 0 (fB g) := by
  refine fs_start (own := RX7) (lv0 := [(0, .ref (fa g 0)), (1, .int x), (2, .int y)]) (by decide) rfl (Nat.le_of_ble_eq_true rfl) rfl ?_
  intro p e s m args below meth c ls E hr hlk hnm hP hl hS
  have hx := E.1.1
  have hb := E.1.2.1
  obtain ⟨sv, hO1, hsv⟩ := id hO
  obtain ⟨o_1x, o_1H, o_1G, o_1Y, o_11, o_12, o_1P, o_1V⟩ := id (hO1)
  have o_1n3 := o_1G.n3
  have o_1n6 := o_1G.n6
  have o_1k := o_1G.k
  obtain ⟨o_1h0, ⟨o_1fl, o_1hl, o_1lw⟩, ⟨o_1fs, o_1hs, o_1sw⟩, ⟨o_1fg, o_1hg, o_1gw⟩, ⟨o_1fr, o_1hr, o_1rw⟩, o_1ru⟩ := id o_1H
  obtain ⟨o_1n, o_1nl, o_1y0, o_1k6, -, -, -⟩ := id o_1Y
  obtain ⟨⟨o_1ws, o_1mp, o_1mw, o_1v0⟩, -⟩ := id o_1V
  have o_1p0 := o_1P.1
  have o_1p60 := o_1P.2.2.1
  have o_1a0 := o_11.1
  have o_1b0 := o_12.1
  refine lv_aload_n hx hb dX7_person_0 rfl (lv_at hl 0 rfl) ?_
  refine fs_get E hP (k := 0) (v := .ref (fa g 1)) 0 fc7 o_1x (by omega) (by decide) (wm wl_1 (i := 13) rfl) rfl dX7_person_1 ?_
  refine lv_iload_n hx hb dX7_person_4 rfl (lv_at hl 1 rfl) ?_
  refine fs_pi (va_runV (As := [.int x]) (rest := []) E.1 (c_X1_hasBox l g N ct 1 (nB σ) (nT σ) (σ 2) 2 3 4 5 (by omega) o_1h0 x (by omega)) (lk_RX7_58 E.1.2.2.2.2 ⟨Nat.le_of_ble_eq_true rfl, Nat.le_of_ble_eq_true rfl⟩) (fpreV E hP hS fc1 o_1h0 (by omega)) rfl rfl hl.1 rfl (lv_room (Nat.le_of_ble_eq_true rfl)) dX7_person_5 ⟨Nat.zero_le _, Nat.zero_le _⟩) hS (fun r_5 locs p_5 hS => ?_)
  refine lv_if_ne (tgt := 13) hx hb dX7_person_8 (by decide) (fun c_8 => ?_) (fun c_8 => ?_)
  · have c_8 := (fb_1 p_5).mp c_8
    obtain ⟨p0, hp0, rfl⟩ := fex c_8.1 c_8.2
    refine lv_iload_n hx hb dX7_person_13 rfl (lv_at hl 2 rfl) ?_
    rcases Decidable.em (y = nI 0) with k_14_0 | k_14_0
    · refine fs_vi k_14_0 ?_
      refine lv_tableIn (off := 38) (tgt := 52) hx hb dX7_person_14 (by decide) (by decide) rfl (by decide) ?_
      refine lv_aload_n hx hb dX7_person_52 rfl (lv_at hl 0 rfl) ?_
      refine fs_get E hP (k := 0) (v := .ref (fa g 1)) 0 fc7 o_1x (by omega) (by decide) (wm wl_1 (i := 13) rfl) rfl dX7_person_53 ?_
      refine fs_getN E hP (k := 1) (v := .ref (fa g 2)) 3 fc1 o_1h0 (by omega) (by decide) (j := 12) rfl rfl dX7_person_56 ?_
      refine lv_iload_n hx hb dX7_person_59 rfl (lv_at hl 1 rfl) ?_
      refine fs_pi (va_runS (As := [.ref (fa g 2), .int (nI p0)]) (rest := []) E.1 (c_X7_at l g N ct 2 6 o_1fl (nI p0) (by omega) (by omega) o_1hl) (lk_RX7_66 E.1.2.2.2.2 ⟨Nat.le_of_ble_eq_true rfl, Nat.le_of_ble_eq_true rfl⟩) (fpreS E hP hS) rfl rfl hl.1 rfl (lv_room (Nat.le_of_ble_eq_true rfl)) dX7_person_60 ⟨Nat.zero_le _, Nat.zero_le _⟩) hS (fun r_60 locs p_60 hS => ?_)
      refine fs_vi (y := (nI (lkf σ p0))) (p_60.trans ((atF_in (by omega) (by omega)).trans (o_1lw.in hp0 (by omega)))) ?_
      refine fs_piret E hr hlk hS dX7_person_63 ?_
      rw [nI_cl (show p0 < 1000000 by omega)]
      rw [if_pos c_8, psF, if_pos k_14_0]
    rcases Decidable.em (y = nI 1) with k_14_1 | k_14_1
    · refine fs_vi k_14_1 ?_
      refine lv_tableIn (off := 50) (tgt := 64) hx hb dX7_person_14 (by decide) (by decide) rfl (by decide) ?_
      refine lv_sipush (v := (nI 1000)) hx hb dX7_person_64 (by decide) ?_
      refine lv_aload_n hx hb dX7_person_67 rfl (lv_at hl 0 rfl) ?_
      refine fs_get E hP (k := 0) (v := .ref (fa g 1)) 0 fc7 o_1x (by omega) (by decide) (wm wl_1 (i := 13) rfl) rfl dX7_person_68 ?_
      refine fs_getN E hP (k := 1) (v := .ref (fa g 3)) 4 fc1 o_1h0 (by omega) (by decide) (j := 13) rfl rfl dX7_person_71 ?_
      refine lv_iload_n hx hb dX7_person_74 rfl (lv_at hl 1 rfl) ?_
      refine fs_pi (va_runS (As := [.ref (fa g 3), .int (nI p0)]) (rest := [.int (nI 1000)]) E.1 (c_X7_at l g N ct 3 6 o_1fs (nI p0) (by omega) (by omega) o_1hs) (lk_RX7_66 E.1.2.2.2.2 ⟨Nat.le_of_ble_eq_true rfl, Nat.le_of_ble_eq_true rfl⟩) (fpreS E hP hS) rfl rfl hl.1 rfl (lv_room (Nat.le_of_ble_eq_true rfl)) dX7_person_75 ⟨Nat.zero_le _, Nat.zero_le _⟩) hS (fun r_75 locs p_75 hS => ?_)
      refine fs_vi (y := (σ (9 + p0))) (p_75.trans ((atF_in (by omega) (by omega)).trans (o_1sw p0 (by omega)))) ?_
      refine lv_iadd hx hb dX7_person_78 ?_
      refine fs_piret E hr hlk hS dX7_person_79 ?_
      rw [nI_cl (show p0 < 1000000 by omega)]
      rw [if_pos c_8, psF, if_neg k_14_0, if_pos k_14_1]
    rcases Decidable.em (y = nI 2) with k_14_2 | k_14_2
    · refine fs_vi k_14_2 ?_
      refine lv_tableIn (off := 66) (tgt := 80) hx hb dX7_person_14 (by decide) (by decide) rfl (by decide) ?_
      refine lv_aload_n hx hb dX7_person_80 rfl (lv_at hl 0 rfl) ?_
      refine fs_get E hP (k := 0) (v := .ref (fa g 1)) 0 fc7 o_1x (by omega) (by decide) (wm wl_1 (i := 13) rfl) rfl dX7_person_81 ?_
      refine fs_getN E hP (k := 1) (v := .ref (fa g 4)) 5 fc1 o_1h0 (by omega) (by decide) (j := 14) rfl rfl dX7_person_84 ?_
      refine lv_iload_n hx hb dX7_person_87 rfl (lv_at hl 1 rfl) ?_
      refine fs_pi (va_runS (As := [.ref (fa g 4), .int (nI p0)]) (rest := []) E.1 (c_X7_at l g N ct 4 6 o_1fg (nI p0) (by omega) (by omega) o_1hg) (lk_RX7_66 E.1.2.2.2.2 ⟨Nat.le_of_ble_eq_true rfl, Nat.le_of_ble_eq_true rfl⟩) (fpreS E hP hS) rfl rfl hl.1 rfl (lv_room (Nat.le_of_ble_eq_true rfl)) dX7_person_88 ⟨Nat.zero_le _, Nat.zero_le _⟩) hS (fun r_88 locs p_88 hS => ?_)
      refine fs_vi (y := (σ (15 + p0))) (p_88.trans ((atF_in (by omega) (by omega)).trans (o_1gw p0 (by omega)))) ?_
      refine fs_piret E hr hlk hS dX7_person_91 ?_
      rw [nI_cl (show p0 < 1000000 by omega)]
      rw [if_pos c_8, psF, if_neg k_14_0, if_neg k_14_1, if_pos k_14_2]
    rcases Decidable.em (y = nI 3) with k_14_3 | k_14_3
    · refine fs_vi k_14_3 ?_
      refine lv_tableIn (off := 78) (tgt := 92) hx hb dX7_person_14 (by decide) (by decide) rfl (by decide) ?_
      refine lv_aload_n hx hb dX7_person_92 rfl (lv_at hl 0 rfl) ?_
      refine fs_get E hP (k := 0) (v := .ref (fa g 1)) 0 fc7 o_1x (by omega) (by decide) (wm wl_1 (i := 13) rfl) rfl dX7_person_93 ?_
      refine lv_iload_n hx hb dX7_person_96 rfl (lv_at hl 1 rfl) ?_
      refine fs_pi (va_runV (As := [.int (nI p0)]) (rest := []) E.1 (c_X1_toldBy l g N ct 1 σ p0 (by omega) o_1G o_1H (by omega)) (lk_RX7_160 E.1.2.2.2.2 ⟨Nat.le_of_ble_eq_true rfl, Nat.le_of_ble_eq_true rfl⟩) (fpreV E hP hS fc1 o_1h0 (by omega)) rfl rfl hl.1 rfl (lv_room (Nat.le_of_ble_eq_true rfl)) dX7_person_97 ⟨Nat.zero_le _, Nat.zero_le _⟩) hS (fun r_97 locs p_97 hS => ?_)
      refine fs_vi (y := (nI (cN (fun i => decide (rk σ i 0 = p0)) (nT σ)))) p_97 ?_
      refine fs_piret E hr hlk hS dX7_person_100 ?_
      rw [nI_cl (show p0 < 1000000 by omega)]
      rw [if_pos c_8, psF, if_neg k_14_0, if_neg k_14_1, if_neg k_14_2, if_pos k_14_3]
    rcases Decidable.em (y = nI 4) with k_14_4 | k_14_4
    · refine fs_vi k_14_4 ?_
      refine lv_tableIn (off := 87) (tgt := 101) hx hb dX7_person_14 (by decide) (by decide) rfl (by decide) ?_
      refine lv_aload_n hx hb dX7_person_101 rfl (lv_at hl 0 rfl) ?_
      refine fs_get E hP (k := 0) (v := .ref (fa g 1)) 0 fc7 o_1x (by omega) (by decide) (wm wl_1 (i := 13) rfl) rfl dX7_person_102 ?_
      refine lv_iload_n hx hb dX7_person_105 rfl (lv_at hl 1 rfl) ?_
      refine fs_pi (va_runV (As := [.int (nI p0)]) (rest := []) E.1 (c_X1_toldTrulyBy l g N ct 1 σ p0 (by omega) o_1G o_1H (by omega)) (lk_RX7_163 E.1.2.2.2.2 ⟨Nat.le_of_ble_eq_true rfl, Nat.le_of_ble_eq_true rfl⟩) (fpreV E hP hS fc1 o_1h0 (by omega)) rfl rfl hl.1 rfl (lv_room (Nat.le_of_ble_eq_true rfl)) dX7_person_106 ⟨Nat.zero_le _, Nat.zero_le _⟩) hS (fun r_106 locs p_106 hS => ?_)
      refine fs_vi (y := (nI (cN (fun i => decide (rk σ i 0 = p0) && hdr σ (lkf σ) i) (nT σ)))) p_106 ?_
      refine fs_piret E hr hlk hS dX7_person_109 ?_
      rw [nI_cl (show p0 < 1000000 by omega)]
      rw [if_pos c_8, psF, if_neg k_14_0, if_neg k_14_1, if_neg k_14_2, if_neg k_14_3, if_pos k_14_4]
    rcases Decidable.em (y = nI 5) with k_14_5 | k_14_5
    · refine fs_vi k_14_5 ?_
      refine lv_tableIn (off := 96) (tgt := 110) hx hb dX7_person_14 (by decide) (by decide) rfl (by decide) ?_
      refine lv_aload_n hx hb dX7_person_110 rfl (lv_at hl 0 rfl) ?_
      refine fs_get E hP (k := 0) (v := .ref (fa g 1)) 0 fc7 o_1x (by omega) (by decide) (wm wl_1 (i := 13) rfl) rfl dX7_person_111 ?_
      refine fs_getN E hP (k := 1) (v := .ref (fa g 2)) 3 fc1 o_1h0 (by omega) (by decide) (j := 12) rfl rfl dX7_person_114 ?_
      refine lv_iload_n hx hb dX7_person_117 rfl (lv_at hl 1 rfl) ?_
      refine fs_pi (va_runS (As := [.ref (fa g 2), .int (nI p0)]) (rest := []) E.1 (c_X7_watchers l g N ct 2 6 o_1fl (nI p0) (by omega) (by omega) o_1hl) (lk_RX7_166 E.1.2.2.2.2 ⟨Nat.le_of_ble_eq_true rfl, Nat.le_of_ble_eq_true rfl⟩) (fpreS E hP hS) rfl rfl hl.1 rfl (lv_room (Nat.le_of_ble_eq_true rfl)) dX7_person_118 ⟨Nat.zero_le _, Nat.zero_le _⟩) hS (fun r_118 locs p_118 hS => ?_)
      refine fs_vi (y := (nI (cN (fun q => decide (lkf σ q = p0)) (nB σ)))) (p_118.trans (congrArg nI (o_1lw.watch o_1G.wok o_1n6 (by omega)))) ?_
      refine fs_piret E hr hlk hS dX7_person_121 ?_
      rw [nI_cl (show p0 < 1000000 by omega)]
      rw [if_pos c_8, psF, if_neg k_14_0, if_neg k_14_1, if_neg k_14_2, if_neg k_14_3, if_neg k_14_4, if_pos k_14_5]
    refine lv_tableOut (tgt := 122) hx hb dX7_person_14 (ftab_0_5 k_14_0 k_14_1 k_14_2 k_14_3 k_14_4 k_14_5) (by decide) ?_
    refine lv_bipush (v := (-2)) hx hb dX7_person_122 (by decide) ?_
    refine fs_piret E hr hlk hS dX7_person_124 ?_
    rw [nI_cl (show p0 < 1000000 by omega)]
    rw [if_pos c_8, psF, if_neg k_14_0, if_neg k_14_1, if_neg k_14_2, if_neg k_14_3, if_neg k_14_4, if_neg k_14_5]
  · have c_8 := (fb_0 p_5).mp c_8
    refine lv_iconst (v := (-1)) hx hb dX7_person_11 (by decide) ?_
    refine fs_piret E hr hlk hS dX7_person_12 ?_
    rw [if_neg c_8]
