theorem OGx.sur {g : fG} {ct ct1 : Nat → va_E} {sv : Int32} {σ : Nat → Int32} {k : Nat} {hs : Nat → Nat → Int32} {u1 u2 : Bool} {s1 s2 : Nat → Int32} {t : Nat → Nat} {len : Nat} (H : OGx g ct1 sv σ k hs u1 s1 u2 s2 t len) (hsv : sv = nI 0 ∨ (sv = nI 1 ∧ SurvP g ct 232 σ (mM σ))) (e : ∀ j, 232 ≤ j → j < 239 → ct1 j = ct j) : OGAt g ct1 σ k hs u1 s1 u2 s2 t len :=
  H.atk hsv (fun j hj => e j (by omega) (by omega))

set_option maxRecDepth 100000 in
set_option maxHeartbeats 4000000 in
theorem c_X7_wipe (l : Launch) (g : fG) (N : Nat) (ct : Nat → va_E) (σ : Nat → Int32) (k : Nat) (hs : Nat → Nat → Int32) (u1 : Bool) (s1 : Nat → Int32) (u2 : Bool) (s2 : Nat → Int32) (t : Nat → Nat) (len : Nat) (hN : 239 ≤ N) (hO : OGAt g ct σ k hs u1 s1 u2 s2 t len) : Met l yX7_wipe (wsU yX7_wipe cX7_wipe 2 (some .int)) rX7_wipe (fPre g N ct [.ref (fa g 0)]) (fQi g N (fun r ct1 => r = nI len ∧ OGAt g ct1 σ k hs u1 s1 u2 s2 t 0 ∧ fSame 0 239 ct ct1)) 0 0 (fB g) := by
  refine fs_start (own := RX7) (lv0 := [(0, .ref (fa g 0))]) (by decide) rfl (Nat.le_of_ble_eq_true rfl) rfl ?_
  intro p e s m args below meth c ls E hr hlk hnm hP hl hS
  have hx := E.1.1
  have hb := E.1.2.1
  obtain ⟨sv, hO1, hsv⟩ := id hO
  obtain ⟨o_1x, o_1H, o_1G, o_1Y, o_11, o_12, o_1P, o_1V⟩ := id (hO1)
  have o_1n3 := o_1G.n3
  have o_1n6 := o_1G.n6
  have o_1k := o_1G.k
  obtain ⟨o_1h0, ⟨o_1fl, o_1hl, o_1lw⟩, ⟨o_1fs, o_1hs, o_1sw⟩, ⟨o_1fg, o_1hg, o_1gw⟩, ⟨o_1fr, o_1hr, o_1rw⟩, o_1ru⟩ := id o_1H
  obtain ⟨o_1n, o_1nl, o_1y0, o_1k6, -, -, -⟩ := id o_1Y
  obtain ⟨⟨o_1ws, o_1mp, o_1mw, o_1v0⟩, -⟩ := id o_1V
  have o_1p0 := o_1P.1
  have o_1p60 := o_1P.2.2.1
  have o_1a0 := o_11.1
  have o_1b0 := o_12.1
  refine lv_aload_n hx hb dX7_wipe_0 rfl (lv_at hl 0 rfl) ?_
  refine fs_get E hP (k := 0) (v := .ref (fa g 230)) 4 fc7 o_1x (by omega) (by decide) (wm wl_2 (i := 5) rfl) rfl dX7_wipe_1 ?_
  refine fs_getN E hP (k := 230) (v := .int (nI len)) 1 fc2 o_1p0 (by omega) (by decide) (j := 18) rfl rfl dX7_wipe_4 ?_
  refine lv_istore_n (lv' := [(1, .int (nI len)), (0, .ref (fa g 0))]) hx hb dX7_wipe_7 rfl hl (by decide) rfl (fun ls hl => ?_)
  refine lv_aload_n hx hb dX7_wipe_8 rfl (lv_at hl 1 rfl) ?_
  refine fs_get E hP (k := 0) (v := .ref (fa g 230)) 4 fc7 o_1x (by omega) (by decide) (wm wl_2 (i := 5) rfl) rfl dX7_wipe_9 ?_
  refine fs_v (va_runV (As := []) (rest := []) E.1 (c_X2_empty l g N ct 230 t len (by omega) o_1P) (lk_RX7_115 E.1.2.2.2.2 ⟨Nat.le_of_ble_eq_true rfl, Nat.le_of_ble_eq_true rfl⟩) (fpreV E hP hS fc2 o_1p0 (by omega)) rfl rfl hl.1 rfl (lv_room (Nat.le_of_ble_eq_true rfl)) dX7_wipe_12 ⟨Nat.zero_le _, Nat.zero_le _⟩) hS (fun ct_2 H locs p_12 hP hS => ?_)
  have og9 := OGx.pad hO1 p_12.1 p_12.2
  refine lv_iload_n hx hb dX7_wipe_15 rfl (lv_at hl 0 rfl) ?_
  refine fs_iret E hr hlk hP hS dX7_wipe_16 ?_
  exact ⟨rfl, (OGx.sur og9 hsv (fun j h1 h2 => p_12.2 j (by omega))), (show fSame 0 239 _ _ from (fSame.tr2 fSame.rf p_12.2 (by omega) (by omega)))⟩

set_option maxRecDepth 100000 in
set_option maxHeartbeats 4000000 in
theorem c_X7_fault (l : Launch) (g : fG) (N : Nat) (ct : Nat → va_E) (σ : Nat → Int32) (k : Nat) (hs : Nat → Nat → Int32) (u1 : Bool) (s1 : Nat → Int32) (u2 : Bool) (s2 : Nat → Int32) (t : Nat → Nat) (len : Nat) (hN : 239 ≤ N) (hO : OGAt g ct σ k hs u1 s1 u2 s2 t len) : Met l yX7_fault (wsU yX7_fault cX7_fault 1 (some .int)) rX7_fault (fPre g N ct [.ref (fa g 0)]) (fQpi (fun r => r = ffF t len)) 0 0 (fB g) := by
  refine fs_start (own := RX7) (lv0 := [(0, .ref (fa g 0))]) (by decide) rfl (Nat.le_of_ble_eq_true rfl) rfl ?_
  intro p e s m args below meth c ls E hr hlk hnm hP hl hS
  have hx := E.1.1
  have hb := E.1.2.1
  obtain ⟨sv, hO1, hsv⟩ := id hO
  obtain ⟨o_1x, o_1H, o_1G, o_1Y, o_11, o_12, o_1P, o_1V⟩ := id (hO1)
  have o_1n3 := o_1G.n3
  have o_1n6 := o_1G.n6
  have o_1k := o_1G.k
  obtain ⟨o_1h0, ⟨o_1fl, o_1hl, o_1lw⟩, ⟨o_1fs, o_1hs, o_1sw⟩, ⟨o_1fg, o_1hg, o_1gw⟩, ⟨o_1fr, o_1hr, o_1rw⟩, o_1ru⟩ := id o_1H
  obtain ⟨o_1n, o_1nl, o_1y0, o_1k6, -, -, -⟩ := id o_1Y
  obtain ⟨⟨o_1ws, o_1mp, o_1mw, o_1v0⟩, -⟩ := id o_1V
  have o_1p0 := o_1P.1
  have o_1p60 := o_1P.2.2.1
  have o_1a0 := o_11.1
  have o_1b0 := o_12.1
  refine lv_aload_n hx hb dX7_fault_0 rfl (lv_at hl 0 rfl) ?_
  refine fs_get E hP (k := 0) (v := .ref (fa g 230)) 4 fc7 o_1x (by omega) (by decide) (wm wl_2 (i := 5) rfl) rfl dX7_fault_1 ?_
  refine fs_pi (va_runV (As := []) (rest := []) E.1 (c_X2_firstFault l g N ct 230 t len (by omega) o_1P) (lk_RX7_88 E.1.2.2.2.2 ⟨Nat.le_of_ble_eq_true rfl, Nat.le_of_ble_eq_true rfl⟩) (fpreV E hP hS fc2 o_1p0 (by omega)) rfl rfl hl.1 rfl (lv_room (Nat.le_of_ble_eq_true rfl)) dX7_fault_4 ⟨Nat.zero_le _, Nat.zero_le _⟩) hS (fun r_4 locs p_4 hS => ?_)
  refine fs_piret E hr hlk hS dX7_fault_7 ?_
  exact p_4

set_option maxRecDepth 100000 in
set_option maxHeartbeats 4000000 in
theorem c_X7_undo (l : Launch) (g : fG) (N : Nat) (ct : Nat → va_E) (σ : Nat → Int32) (k : Nat) (hs : Nat → Nat → Int32) (u1 : Bool) (s1 : Nat → Int32) (u2 : Bool) (s2 : Nat → Int32) (t : Nat → Nat) (len : Nat) (hN : 239 ≤ N) (hO : OGAt g ct σ k hs u1 s1 u2 s2 t len) : Met l yX7_undo (wsU yX7_undo cX7_undo 1 (some .int)) rX7_undo (fPre g N ct [.ref (fa g 0)]) (fQi g N (fun r ct1 => r = (if k = 0 then -5 else nI (k - 1)) ∧ OGAt g ct1 (if k = 0 then σ else hs 0) (k - 1) (if k = 0 then hs else fun i => hs (i + 1)) u1 s1 u2 s2 t len ∧ fSame 0 239 ct ct1)) 0 0 (fB g) := by
  refine fs_start (own := RX7) (lv0 := [(0, .ref (fa g 0))]) (by decide) rfl (Nat.le_of_ble_eq_true rfl) rfl ?_
  intro p e s m args below meth c ls E hr hlk hnm hP hl hS
  have hx := E.1.1
  have hb := E.1.2.1
  obtain ⟨sv, hO1, hsv⟩ := id hO
  obtain ⟨o_1x, o_1H, o_1G, o_1Y, o_11, o_12, o_1P, o_1V⟩ := id (hO1)
  have o_1n3 := o_1G.n3
  have o_1n6 := o_1G.n6
  have o_1k := o_1G.k
  obtain ⟨o_1h0, ⟨o_1fl, o_1hl, o_1lw⟩, ⟨o_1fs, o_1hs, o_1sw⟩, ⟨o_1fg, o_1hg, o_1gw⟩, ⟨o_1fr, o_1hr, o_1rw⟩, o_1ru⟩ := id o_1H
  obtain ⟨o_1n, o_1nl, o_1y0, o_1k6, -, -, -⟩ := id o_1Y
  obtain ⟨⟨o_1ws, o_1mp, o_1mw, o_1v0⟩, -⟩ := id o_1V
  have o_1p0 := o_1P.1
  have o_1p60 := o_1P.2.2.1
  have o_1a0 := o_11.1
  have o_1b0 := o_12.1
  refine lv_aload_n hx hb dX7_undo_0 rfl (lv_at hl 0 rfl) ?_
  refine fs_get E hP (k := 0) (v := .ref (fa g 26)) 1 fc7 o_1x (by omega) (by decide) (wm wl_1 (i := 20) rfl) rfl dX7_undo_1 ?_
  refine fs_getN E hP (k := 26) (v := .int (nI k)) 1 fc0 o_1y0 (by omega) (by decide) (j := 15) rfl rfl dX7_undo_4 ?_
  refine lv_if_ne (tgt := 13) hx hb dX7_undo_7 (by decide) (fun c_7 => ?_) (fun c_7 => ?_)
  · rw [fz_eqN (by omega)] at c_7
    refine lv_aload_n hx hb dX7_undo_13 rfl (lv_at hl 0 rfl) ?_
    refine fs_get E hP (k := 0) (v := .ref (fa g 26)) 1 fc7 o_1x (by omega) (by decide) (wm wl_1 (i := 20) rfl) rfl dX7_undo_14 ?_
    refine lv_aload_n hx hb dX7_undo_17 rfl (lv_at hl 0 rfl) ?_
    refine fs_get E hP (k := 0) (v := .ref (fa g 1)) 0 fc7 o_1x (by omega) (by decide) (wm wl_1 (i := 16) rfl) rfl dX7_undo_18 ?_
    refine fs_v (va_runV (As := [.ref (fa g 1)]) (rest := []) E.1 (c_X0_takeBack l g N ct k hs (by omega) (by omega) o_1H.sh o_1Y) (lk_RX7_258 E.1.2.2.2.2 ⟨Nat.le_of_ble_eq_true rfl, Nat.le_of_ble_eq_true rfl⟩) (fpreV E hP hS fc0 o_1y0 (by omega)) rfl rfl hl.1 rfl (lv_room (Nat.le_of_ble_eq_true rfl)) dX7_undo_21 ⟨Nat.zero_le _, Nat.zero_le _⟩) hS (fun ct_2 H locs p_21 hP hS => ?_)
    have og8 := OGx.both hO1 p_21.1 p_21.2.1 p_21.2.2.1 p_21.2.2.2
    obtain ⟨o_3x, o_3H, o_3G, o_3Y, o_31, o_32, o_3P, o_3V⟩ := id (og8)
    have o_3n3 := o_3G.n3
    have o_3n6 := o_3G.n6
    have o_3k := o_3G.k
    obtain ⟨o_3h0, ⟨o_3fl, o_3hl, o_3lw⟩, ⟨o_3fs, o_3hs, o_3sw⟩, ⟨o_3fg, o_3hg, o_3gw⟩, ⟨o_3fr, o_3hr, o_3rw⟩, o_3ru⟩ := id o_3H
    obtain ⟨o_3n, o_3nl, o_3y0, o_3k6, -, -, -⟩ := id o_3Y
    obtain ⟨⟨o_3ws, o_3mp, o_3mw, o_3v0⟩, -⟩ := id o_3V
    have o_3p0 := o_3P.1
    have o_3p60 := o_3P.2.2.1
    have o_3a0 := o_31.1
    have o_3b0 := o_32.1
    refine lv_aload_n hx hb dX7_undo_24 rfl (lv_at hl 0 rfl) ?_
    refine lv_iconst (v := (nI 0)) hx hb dX7_undo_25 (by decide) ?_
    refine fs_put E hP hS (k := 0) 6 fc7 o_3x (by omega) (by decide) (wm wl_5 (i := 21) rfl) rfl rfl rfl rfl (Nat.le_of_ble_eq_true rfl) dX7_undo_26 (fun ct_4 H locs q_5 hP hS => ?_)
    have h_6 : ct_4 0 = .inr (7, [.ref (fa g 1), .ref (fa g 26), .ref (fa g 178), .ref (fa g 204), .ref (fa g 230), .ref (fa g 232), .int (nI 0)]) := by rw [q_5]; exact fu_eq _ _ _
    have h_7 : ct_4 1 = .inr (1, [.int (nI (nB (hs 0))), .int ((hs 0) 2), .int (nI (nT (hs 0))), .ref (fa g 2), .ref (fa g 3), .ref (fa g 4), .ref (fa g 5)]) := by rw [q_5]; exact (fu_ne (by omega)).trans o_3h0
    have h_8 : ct_4 2 = .inl (fcI g, 6, .inl o_3fl) := by rw [q_5]; exact (fu_ne (by omega)).trans o_3hl
    have h_9 : ct_4 3 = .inl (fcI g, 6, .inl o_3fs) := by rw [q_5]; exact (fu_ne (by omega)).trans o_3hs
    have h_10 : ct_4 4 = .inl (fcI g, 6, .inl o_3fg) := by rw [q_5]; exact (fu_ne (by omega)).trans o_3hg
    have h_11 : ct_4 5 = .inl (fcR g, 20, .inr (.inr (.inr (.inr o_3fr)))) := by rw [q_5]; exact (fu_ne (by omega)).trans o_3hr
    have h_12 : ct_4 26 = .inr (0, [.ref (fa g 27), .int (nI (k - 1)), .int (nI o_3n)]) := by rw [q_5]; exact (fu_ne (by omega)).trans o_3y0
    have h_13 : ct_4 178 = .inr (4, [.ref (fa g 179), .int (if u1 = true then nI 1 else nI 0)]) := by rw [q_5]; exact (fu_ne (by omega)).trans o_3a0
    have h_14 : ct_4 204 = .inr (4, [.ref (fa g 205), .int (if u2 = true then nI 1 else nI 0)]) := by rw [q_5]; exact (fu_ne (by omega)).trans o_3b0
    have h_15 : ct_4 230 = .inr (2, [.ref (fa g 231), .int (nI len)]) := by rw [q_5]; exact (fu_ne (by omega)).trans o_3p0
    have h_16 : ct_4 232 = .inr (5, [.ref (fa g 233), .int o_3ws, .int o_3mp, .int o_3mw, .ref (fa g 235), .ref (fa g 236), .ref (fa g 237), .ref (fa g 238)]) := by rw [q_5]; exact (fu_ne (by omega)).trans o_3v0
    have og9 := OGx.x og8 h_6 (show fSame 0 1 _ _ from (fSame.ap fSame.rf q_5 (by omega) (by omega)))
    obtain ⟨o_17x, o_17H, o_17G, o_17Y, o_171, o_172, o_17P, o_17V⟩ := id (og9)
    have o_17n3 := o_17G.n3
    have o_17n6 := o_17G.n6
    have o_17k := o_17G.k
    obtain ⟨o_17h0, ⟨o_17fl, o_17hl, o_17lw⟩, ⟨o_17fs, o_17hs, o_17sw⟩, ⟨o_17fg, o_17hg, o_17gw⟩, ⟨o_17fr, o_17hr, o_17rw⟩, o_17ru⟩ := id o_17H
    obtain ⟨o_17n, o_17nl, o_17y0, o_17k6, -, -, -⟩ := id o_17Y
    obtain ⟨⟨o_17ws, o_17mp, o_17mw, o_17v0⟩, -⟩ := id o_17V
    have o_17p0 := o_17P.1
    have o_17p60 := o_17P.2.2.1
    have o_17a0 := o_171.1
    have o_17b0 := o_172.1
    refine lv_aload_n hx hb dX7_undo_29 rfl (lv_at hl 0 rfl) ?_
    refine fs_get E hP (k := 0) (v := .ref (fa g 26)) 1 fc7 o_17x (by omega) (by decide) (wm wl_1 (i := 20) rfl) rfl dX7_undo_30 ?_
    refine fs_getN E hP (k := 26) (v := .int (nI (k - 1))) 1 fc0 o_17y0 (by omega) (by decide) (j := 15) rfl rfl dX7_undo_33 ?_
    refine fs_iret E hr hlk hP hS dX7_undo_36 ?_
    refine ⟨(if_neg c_7).symm, ?_, (show fSame 0 239 _ _ from (fSame.ap (fSame.tr2 fSame.rf p_21.2.2.2 (by omega) (by omega)) q_5 (by omega) (by omega)))⟩
    rw [if_neg c_7, if_neg c_7]; exact (OGx.at0 og9)
  · rw [fz_eqN (by omega)] at c_7
    refine lv_bipush (v := (-5)) hx hb dX7_undo_10 (by decide) ?_
    refine fs_iret E hr hlk hP hS dX7_undo_12 ?_
    refine ⟨(if_pos c_7).symm, ?_, fSame.rf⟩
    rw [if_pos c_7, if_pos c_7, show k - 1 = k by omega]; exact hO

theorem nI01 : ¬ nI 0 = nI 1 := by decide
theorem nI10 : ¬ nI 1 = nI 0 := by decide
set_option maxRecDepth 100000 in
set_option maxHeartbeats 4000000 in
theorem c_X7_save (l : Launch) (g : fG) (N : Nat) (ct : Nat → va_E) (σ : Nat → Int32) (k : Nat) (hs : Nat → Nat → Int32) (u1 : Bool) (s1 : Nat → Int32) (u2 : Bool) (s2 : Nat → Int32) (t : Nat → Nat) (len : Nat) (hN : 239 ≤ N) (hO : OGAt g ct σ k hs u1 s1 u2 s2 t len) (x : Int32) : Met l yX7_save (wsU yX7_save cX7_save 3 (some .int)) rX7_save (fPre g N ct [.ref (fa g 0), .int x]) (fQi g N (fun r ct1 => r = (if x = nI 0 ∨ x = nI 1 then nI (nT σ) else -2) ∧ OGAt g ct1 σ k hs (if x = nI 0 then true else u1) (if x = nI 0 then σ else s1) (if x = nI 1 then true else u2) (if x = nI 1 then σ else s2) t len ∧ fSame 0 239 ct ct1)) 0 0 (fB g) := by
  refine fs_start (own := RX7) (lv0 := [(0, .ref (fa g 0)), (1, .int x)]) (by decide) rfl (Nat.le_of_ble_eq_true rfl) rfl ?_
  intro p e s m args below meth c ls E hr hlk hnm hP hl hS
  have hx := E.1.1
  have hb := E.1.2.1
  obtain ⟨sv, hO1, hsv⟩ := id hO
  obtain ⟨o_1x, o_1H, o_1G, o_1Y, o_11, o_12, o_1P, o_1V⟩ := id (hO1)
  have o_1n3 := o_1G.n3
  have o_1n6 := o_1G.n6
  have o_1k := o_1G.k
  obtain ⟨o_1h0, ⟨o_1fl, o_1hl, o_1lw⟩, ⟨o_1fs, o_1hs, o_1sw⟩, ⟨o_1fg, o_1hg, o_1gw⟩, ⟨o_1fr, o_1hr, o_1rw⟩, o_1ru⟩ := id o_1H
  obtain ⟨o_1n, o_1nl, o_1y0, o_1k6, -, -, -⟩ := id o_1Y
  obtain ⟨⟨o_1ws, o_1mp, o_1mw, o_1v0⟩, -⟩ := id o_1V
  have o_1p0 := o_1P.1
  have o_1p60 := o_1P.2.2.1
  have o_1a0 := o_11.1
  have o_1b0 := o_12.1
  refine lv_aload_n hx hb dX7_save_0 rfl (lv_at hl 0 rfl) ?_
  refine lv_iload_n hx hb dX7_save_1 rfl (lv_at hl 1 rfl) ?_
  refine fs_pr (va_runV (As := [.int x]) (rest := []) E.1 (c_X7_slotAt l g N ct σ k hs u1 s1 u2 s2 t len (by omega) hO x) (lk_RX7_265 E.1.2.2.2.2 ⟨Nat.le_of_ble_eq_true rfl, Nat.le_of_ble_eq_true rfl⟩) (fpreV E hP hS fc7 o_1x (by omega)) rfl rfl hl.1 rfl (lv_room (Nat.le_of_ble_eq_true rfl)) dX7_save_2 ⟨Nat.zero_le _, Nat.zero_le _⟩) hS (fun r_2 locs p_2 hS => ?_)
  rcases p_2 with ⟨rfl, hs2⟩ | ⟨rfl, hs2⟩ | ⟨hx0, hx1, hs2⟩
  · refine fs_vv (y := .ref (fa g 178)) hs2 ?_
    refine lv_astore_n (lv' := [(2, .ref (fa g 178)), (0, .ref (fa g 0)), (1, .int (nI 0))]) hx hb dX7_save_5 rfl hl (by decide) rfl (fun ls hl => ?_)
    refine lv_aload_n hx hb dX7_save_6 rfl (lv_at hl 0 rfl) ?_
    refine lv_ifnonnull (tgt := 13) hx hb dX7_save_7 (by decide) ?_
    refine lv_aload_n hx hb dX7_save_13 rfl (lv_at hl 0 rfl) ?_
    refine fs_getN E hP (k := 178) (v := .ref (fa g 179)) 0 fc4 o_1a0 (by omega) (by decide) (j := 16) rfl rfl dX7_save_14 ?_
    refine lv_aload_n hx hb dX7_save_17 rfl (lv_at hl 1 rfl) ?_
    refine fs_get E hP (k := 0) (v := .ref (fa g 1)) 0 fc7 o_1x (by omega) (by decide) (wm wl_1 (i := 16) rfl) rfl dX7_save_18 ?_
    obtain ⟨⟨z_2b, z_2a, z_2t, z_2h⟩, -⟩ := id (o_11.2.1)
    refine fs_v (va_runV (As := [.ref (fa g 1)]) (rest := []) E.1 (c_X1_copyFrom l g N ct 179 1 σ (by omega) (by omega) (by omega) o_1G o_11.2.1 o_1H) (lk_RX7_272 E.1.2.2.2.2 ⟨Nat.le_of_ble_eq_true rfl, Nat.le_of_ble_eq_true rfl⟩) (fpreV E hP hS fc1 z_2h (by omega)) rfl rfl hl.1 rfl (lv_room (Nat.le_of_ble_eq_true rfl)) dX7_save_21 ⟨Nat.zero_le _, Nat.zero_le _⟩) hS (fun ct_3 H locs p_21 hP hS => ?_)
    have h_4 : ct_3 0 = .inr (7, [.ref (fa g 1), .ref (fa g 26), .ref (fa g 178), .ref (fa g 204), .ref (fa g 230), .ref (fa g 232), .int sv]) := (p_21.2 _ (by omega)).trans o_1x
    have h_5 : ct_3 1 = .inr (1, [.int (nI (nB σ)), .int (σ 2), .int (nI (nT σ)), .ref (fa g 2), .ref (fa g 3), .ref (fa g 4), .ref (fa g 5)]) := (p_21.2 _ (by omega)).trans o_1h0
    have h_6 : ct_3 178 = .inr (4, [.ref (fa g 179), .int (if u1 = true then nI 1 else nI 0)]) := (p_21.2 _ (by omega)).trans o_1a0
    refine lv_aload_n hx hb dX7_save_24 rfl (lv_at hl 0 rfl) ?_
    refine lv_iconst (v := (nI 1)) hx hb dX7_save_25 (by decide) ?_
    refine fs_putN E hP hS (k := 178) 1 fc4 h_6 (by omega) (by decide) (j := 17) rfl rfl rfl rfl rfl (Nat.le_of_ble_eq_true rfl) dX7_save_26 (fun ct_7 H locs q_8 hP hS => ?_)
    have h_9 : ct_7 0 = .inr (7, [.ref (fa g 1), .ref (fa g 26), .ref (fa g 178), .ref (fa g 204), .ref (fa g 230), .ref (fa g 232), .int sv]) := by rw [q_8]; exact (fu_ne (by omega)).trans h_4
    have h_10 : ct_7 1 = .inr (1, [.int (nI (nB σ)), .int (σ 2), .int (nI (nT σ)), .ref (fa g 2), .ref (fa g 3), .ref (fa g 4), .ref (fa g 5)]) := by rw [q_8]; exact (fu_ne (by omega)).trans h_5
    have h_11 : ct_7 178 = .inr (4, [.ref (fa g 179), .int (nI 1)]) := by rw [q_8]; exact fu_eq _ _ _
    refine lv_aload_n hx hb dX7_save_29 rfl (lv_at hl 1 rfl) ?_
    refine fs_get E hP (k := 0) (v := .ref (fa g 1)) 0 fc7 h_9 (by omega) (by decide) (wm wl_1 (i := 16) rfl) rfl dX7_save_30 ?_
    refine fs_getN E hP (k := 1) (v := .int (nI (nT σ))) 2 fc1 h_10 (by omega) (by decide) (j := 11) rfl rfl dX7_save_33 ?_
    refine fs_iret E hr hlk hP hS dX7_save_36 ?_
    have sl9 : SlotAt g ct_7 178 true σ := ⟨h_11, HouseSh.keep p_21.1.sh (fun j h1 h2 => (show ct_7 j = ct_3 j by rw [q_8]; exact fu_ne (by omega))), fun _ => ⟨HouseAt.keep p_21.1 (fun j h1 h2 => (show ct_7 j = ct_3 j by rw [q_8]; exact fu_ne (by omega))), o_1G⟩⟩
    have og9 := OGx.slot1 hO1 sl9 (show fSame 178 204 _ _ from (fSame.ap (fSame.tr2 fSame.rf p_21.2 (by omega) (by omega)) q_8 (by omega) (by omega)))
    refine ⟨(if_pos (Or.inl rfl)).symm, ?_, (show fSame 0 239 _ _ from (fSame.ap (fSame.tr2 fSame.rf p_21.2 (by omega) (by omega)) q_8 (by omega) (by omega)))⟩
    rw [if_pos rfl, if_pos rfl, if_neg nI01, if_neg nI01]
    exact OGx.sur og9 hsv (fun j (_ : 232 ≤ j) (_ : j < 239) => ((show ct_7 j = ct_3 j by rw [q_8]; exact fu_ne (by omega))).trans ((p_21.2 j (by omega))))
  · refine fs_vv (y := .ref (fa g 204)) hs2 ?_
    refine lv_astore_n (lv' := [(2, .ref (fa g 204)), (0, .ref (fa g 0)), (1, .int (nI 1))]) hx hb dX7_save_5 rfl hl (by decide) rfl (fun ls hl => ?_)
    refine lv_aload_n hx hb dX7_save_6 rfl (lv_at hl 0 rfl) ?_
    refine lv_ifnonnull (tgt := 13) hx hb dX7_save_7 (by decide) ?_
    refine lv_aload_n hx hb dX7_save_13 rfl (lv_at hl 0 rfl) ?_
    refine fs_getN E hP (k := 204) (v := .ref (fa g 205)) 0 fc4 o_1b0 (by omega) (by decide) (j := 16) rfl rfl dX7_save_14 ?_
    refine lv_aload_n hx hb dX7_save_17 rfl (lv_at hl 1 rfl) ?_
    refine fs_get E hP (k := 0) (v := .ref (fa g 1)) 0 fc7 o_1x (by omega) (by decide) (wm wl_1 (i := 16) rfl) rfl dX7_save_18 ?_
    obtain ⟨⟨z_12b, z_12a, z_12t, z_12h⟩, -⟩ := id (o_12.2.1)
    refine fs_v (va_runV (As := [.ref (fa g 1)]) (rest := []) E.1 (c_X1_copyFrom l g N ct 205 1 σ (by omega) (by omega) (by omega) o_1G o_12.2.1 o_1H) (lk_RX7_272 E.1.2.2.2.2 ⟨Nat.le_of_ble_eq_true rfl, Nat.le_of_ble_eq_true rfl⟩) (fpreV E hP hS fc1 z_12h (by omega)) rfl rfl hl.1 rfl (lv_room (Nat.le_of_ble_eq_true rfl)) dX7_save_21 ⟨Nat.zero_le _, Nat.zero_le _⟩) hS (fun ct_13 H locs p_21 hP hS => ?_)
    have h_14 : ct_13 0 = .inr (7, [.ref (fa g 1), .ref (fa g 26), .ref (fa g 178), .ref (fa g 204), .ref (fa g 230), .ref (fa g 232), .int sv]) := (p_21.2 _ (by omega)).trans o_1x
    have h_15 : ct_13 1 = .inr (1, [.int (nI (nB σ)), .int (σ 2), .int (nI (nT σ)), .ref (fa g 2), .ref (fa g 3), .ref (fa g 4), .ref (fa g 5)]) := (p_21.2 _ (by omega)).trans o_1h0
    have h_16 : ct_13 204 = .inr (4, [.ref (fa g 205), .int (if u2 = true then nI 1 else nI 0)]) := (p_21.2 _ (by omega)).trans o_1b0
    refine lv_aload_n hx hb dX7_save_24 rfl (lv_at hl 0 rfl) ?_
    refine lv_iconst (v := (nI 1)) hx hb dX7_save_25 (by decide) ?_
    refine fs_putN E hP hS (k := 204) 1 fc4 h_16 (by omega) (by decide) (j := 17) rfl rfl rfl rfl rfl (Nat.le_of_ble_eq_true rfl) dX7_save_26 (fun ct_17 H locs q_18 hP hS => ?_)
    have h_19 : ct_17 0 = .inr (7, [.ref (fa g 1), .ref (fa g 26), .ref (fa g 178), .ref (fa g 204), .ref (fa g 230), .ref (fa g 232), .int sv]) := by rw [q_18]; exact (fu_ne (by omega)).trans h_14
    have h_20 : ct_17 1 = .inr (1, [.int (nI (nB σ)), .int (σ 2), .int (nI (nT σ)), .ref (fa g 2), .ref (fa g 3), .ref (fa g 4), .ref (fa g 5)]) := by rw [q_18]; exact (fu_ne (by omega)).trans h_15
    have h_21 : ct_17 204 = .inr (4, [.ref (fa g 205), .int (nI 1)]) := by rw [q_18]; exact fu_eq _ _ _
    refine lv_aload_n hx hb dX7_save_29 rfl (lv_at hl 1 rfl) ?_
    refine fs_get E hP (k := 0) (v := .ref (fa g 1)) 0 fc7 h_19 (by omega) (by decide) (wm wl_1 (i := 16) rfl) rfl dX7_save_30 ?_
    refine fs_getN E hP (k := 1) (v := .int (nI (nT σ))) 2 fc1 h_20 (by omega) (by decide) (j := 11) rfl rfl dX7_save_33 ?_
    refine fs_iret E hr hlk hP hS dX7_save_36 ?_
    have sl9 : SlotAt g ct_17 204 true σ := ⟨h_21, HouseSh.keep p_21.1.sh (fun j h1 h2 => (show ct_17 j = ct_13 j by rw [q_18]; exact fu_ne (by omega))), fun _ => ⟨HouseAt.keep p_21.1 (fun j h1 h2 => (show ct_17 j = ct_13 j by rw [q_18]; exact fu_ne (by omega))), o_1G⟩⟩
    have og9 := OGx.slot2 hO1 sl9 (show fSame 204 230 _ _ from (fSame.ap (fSame.tr2 fSame.rf p_21.2 (by omega) (by omega)) q_18 (by omega) (by omega)))
    refine ⟨(if_pos (Or.inr rfl)).symm, ?_, (show fSame 0 239 _ _ from (fSame.ap (fSame.tr2 fSame.rf p_21.2 (by omega) (by omega)) q_18 (by omega) (by omega)))⟩
    rw [if_neg nI10, if_neg nI10, if_pos rfl, if_pos rfl]
    exact OGx.sur og9 hsv (fun j (_ : 232 ≤ j) (_ : j < 239) => ((show ct_17 j = ct_13 j by rw [q_18]; exact fu_ne (by omega))).trans ((p_21.2 j (by omega))))
  · refine fs_vv (y := .null) hs2 ?_
    refine lv_astore_nN (lv' := [(2, .null), (0, .ref (fa g 0)), (1, .int x)]) hx hb dX7_save_5 rfl hl (by decide) rfl (fun ls hl => ?_)
    refine lv_aload_nN hx hb dX7_save_6 rfl (lv_at hl 0 rfl) ?_
    refine lv_ifnonnullN hx hb dX7_save_7 ?_
    refine lv_bipush (v := (-2)) hx hb dX7_save_10 (by decide) ?_
    refine fs_iret E hr hlk hP hS dX7_save_12 ?_
    refine ⟨(if_neg (fun z => z.elim hx0 hx1)).symm, ?_, fSame.rf⟩
    rw [if_neg hx0, if_neg hx0, if_neg hx1, if_neg hx1]; exact hO

set_option maxRecDepth 100000 in
set_option maxHeartbeats 4000000 in
theorem c_X7_restore (l : Launch) (g : fG) (N : Nat) (ct : Nat → va_E) (σ : Nat → Int32) (k : Nat) (hs : Nat → Nat → Int32) (u1 : Bool) (s1 : Nat → Int32) (u2 : Bool) (s2 : Nat → Int32) (t : Nat → Nat) (len : Nat) (hN : 239 ≤ N) (hO : OGAt g ct σ k hs u1 s1 u2 s2 t len) (x : Int32) : Met l yX7_restore (wsU yX7_restore cX7_restore 3 (some .int)) rX7_restore (fPre g N ct [.ref (fa g 0), .int x]) (fQi g N (fun r ct1 => r = (if x = nI 0 then (if u1 = true then nI (nT s1) else -5) else if x = nI 1 then (if u2 = true then nI (nT s2) else -5) else -2) ∧ OGc g ct1 ((x = nI 0 ∧ u1 = true) ∨ (x = nI 1 ∧ u2 = true)) (if x = nI 0 then s1 else s2) σ k hs u1 s1 u2 s2 t len ∧ fSame 0 239 ct ct1)) 0 0 (fB g) := by
  refine fs_start (own := RX7) (lv0 := [(0, .ref (fa g 0)), (1, .int x)]) (by decide) rfl (Nat.le_of_ble_eq_true rfl) rfl ?_
  intro p e s m args below meth c ls E hr hlk hnm hP hl hS
  have hx := E.1.1
  have hb := E.1.2.1
  obtain ⟨sv, hO1, hsv⟩ := id hO
  obtain ⟨o_1x, o_1H, o_1G, o_1Y, o_11, o_12, o_1P, o_1V⟩ := id (hO1)
  have o_1n3 := o_1G.n3
  have o_1n6 := o_1G.n6
  have o_1k := o_1G.k
  obtain ⟨o_1h0, ⟨o_1fl, o_1hl, o_1lw⟩, ⟨o_1fs, o_1hs, o_1sw⟩, ⟨o_1fg, o_1hg, o_1gw⟩, ⟨o_1fr, o_1hr, o_1rw⟩, o_1ru⟩ := id o_1H
  obtain ⟨o_1n, o_1nl, o_1y0, o_1k6, -, -, -⟩ := id o_1Y
  obtain ⟨⟨o_1ws, o_1mp, o_1mw, o_1v0⟩, -⟩ := id o_1V
  have o_1p0 := o_1P.1
  have o_1p60 := o_1P.2.2.1
  have o_1a0 := o_11.1
  have o_1b0 := o_12.1
  refine lv_aload_n hx hb dX7_restore_0 rfl (lv_at hl 0 rfl) ?_
  refine lv_iload_n hx hb dX7_restore_1 rfl (lv_at hl 1 rfl) ?_
  refine fs_pr (va_runV (As := [.int x]) (rest := []) E.1 (c_X7_slotAt l g N ct σ k hs u1 s1 u2 s2 t len (by omega) hO x) (lk_RX7_265 E.1.2.2.2.2 ⟨Nat.le_of_ble_eq_true rfl, Nat.le_of_ble_eq_true rfl⟩) (fpreV E hP hS fc7 o_1x (by omega)) rfl rfl hl.1 rfl (lv_room (Nat.le_of_ble_eq_true rfl)) dX7_restore_2 ⟨Nat.zero_le _, Nat.zero_le _⟩) hS (fun r_2 locs p_2 hS => ?_)
  rcases p_2 with ⟨rfl, hs2⟩ | ⟨rfl, hs2⟩ | ⟨hx0, hx1, hs2⟩
  · refine fs_vv (y := .ref (fa g 178)) hs2 ?_
    refine lv_astore_n (lv' := [(2, .ref (fa g 178)), (0, .ref (fa g 0)), (1, .int (nI 0))]) hx hb dX7_restore_5 rfl hl (by decide) rfl (fun ls hl => ?_)
    refine lv_aload_n hx hb dX7_restore_6 rfl (lv_at hl 0 rfl) ?_
    refine lv_ifnonnull (tgt := 13) hx hb dX7_restore_7 (by decide) ?_
    refine lv_aload_n hx hb dX7_restore_13 rfl (lv_at hl 0 rfl) ?_
    refine fs_getN E hP (k := 178) (v := .int (if u1 = true then nI 1 else nI 0)) 1 fc4 o_1a0 (by omega) (by decide) (j := 17) rfl rfl dX7_restore_14 ?_
    refine lv_if_ne (tgt := 23) hx hb dX7_restore_17 (by decide) (fun c_17 => ?_) (fun c_17 => ?_)
    · have hu : u1 = true := Classical.byContradiction (fun z => c_17 (by rw [if_neg z]; rfl))
      refine lv_aload_n hx hb dX7_restore_23 rfl (lv_at hl 1 rfl) ?_
      refine fs_v (va_runV (As := []) (rest := []) E.1 (c_X7_beginChange l g N ct sv σ k hs u1 s1 u2 s2 t len (by omega) hO1) (lk_RX7_55 E.1.2.2.2.2 ⟨Nat.le_of_ble_eq_true rfl, Nat.le_of_ble_eq_true rfl⟩) (fpreV E hP hS fc7 o_1x (by omega)) rfl rfl hl.1 rfl (lv_room (Nat.le_of_ble_eq_true rfl)) dX7_restore_24 ⟨Nat.zero_le _, Nat.zero_le _⟩) hS (fun ct_2 H locs p_24 hP hS => ?_)
      obtain ⟨o_3x, o_3H, o_3G, o_3Y, o_31, o_32, o_3P, o_3V⟩ := id (p_24.1)
      have o_3n3 := o_3G.n3
      have o_3n6 := o_3G.n6
      have o_3k := o_3G.k
      obtain ⟨o_3h0, ⟨o_3fl, o_3hl, o_3lw⟩, ⟨o_3fs, o_3hs, o_3sw⟩, ⟨o_3fg, o_3hg, o_3gw⟩, ⟨o_3fr, o_3hr, o_3rw⟩, o_3ru⟩ := id o_3H
      obtain ⟨o_3n, o_3nl, o_3y0, o_3k6, -, -, -⟩ := id o_3Y
      obtain ⟨⟨o_3ws, o_3mp, o_3mw, o_3v0⟩, -⟩ := id o_3V
      have o_3p0 := o_3P.1
      have o_3p60 := o_3P.2.2.1
      have o_3a0 := o_31.1
      have o_3b0 := o_32.1
      refine lv_aload_n hx hb dX7_restore_27 rfl (lv_at hl 1 rfl) ?_
      refine fs_get E hP (k := 0) (v := .ref (fa g 1)) 0 fc7 o_3x (by omega) (by decide) (wm wl_1 (i := 16) rfl) rfl dX7_restore_28 ?_
      refine lv_aload_n hx hb dX7_restore_31 rfl (lv_at hl 0 rfl) ?_
      refine fs_getN E hP (k := 178) (v := .ref (fa g 179)) 0 fc4 o_3a0 (by omega) (by decide) (j := 16) rfl rfl dX7_restore_32 ?_
      refine fs_v (va_runV (As := [.ref (fa g 179)]) (rest := []) E.1 (c_X1_copyFrom l g N ct_2 1 179 s1 (by omega) (by omega) (by omega) (o_31.2.2 hu).2 o_3H.sh (o_31.2.2 hu).1) (lk_RX7_272 E.1.2.2.2.2 ⟨Nat.le_of_ble_eq_true rfl, Nat.le_of_ble_eq_true rfl⟩) (fpreV E hP hS fc1 o_3h0 (by omega)) rfl rfl hl.1 rfl (lv_room (Nat.le_of_ble_eq_true rfl)) dX7_restore_35 ⟨Nat.zero_le _, Nat.zero_le _⟩) hS (fun ct_4 H locs p_35 hP hS => ?_)
      have sm_6 : fSame 1 26 ct_2 ct_4 := p_35.2
      have og_5 := OGx.house p_24.1 (p_35.1) ((o_31.2.2 hu).2) sm_6
      obtain ⟨o_7x, o_7H, o_7G, o_7Y, o_71, o_72, o_7P, o_7V⟩ := id (og_5)
      have o_7n3 := o_7G.n3
      have o_7n6 := o_7G.n6
      have o_7k := o_7G.k
      obtain ⟨o_7h0, ⟨o_7fl, o_7hl, o_7lw⟩, ⟨o_7fs, o_7hs, o_7sw⟩, ⟨o_7fg, o_7hg, o_7gw⟩, ⟨o_7fr, o_7hr, o_7rw⟩, o_7ru⟩ := id o_7H
      obtain ⟨o_7n, o_7nl, o_7y0, o_7k6, -, -, -⟩ := id o_7Y
      obtain ⟨⟨o_7ws, o_7mp, o_7mw, o_7v0⟩, -⟩ := id o_7V
      have o_7p0 := o_7P.1
      have o_7p60 := o_7P.2.2.1
      have o_7a0 := o_71.1
      have o_7b0 := o_72.1
      refine lv_aload_n hx hb dX7_restore_38 rfl (lv_at hl 1 rfl) ?_
      refine fs_get E hP (k := 0) (v := .ref (fa g 1)) 0 fc7 o_7x (by omega) (by decide) (wm wl_1 (i := 16) rfl) rfl dX7_restore_39 ?_
      refine fs_getN E hP (k := 1) (v := .int (nI (nT s1))) 2 fc1 o_7h0 (by omega) (by decide) (j := 11) rfl rfl dX7_restore_42 ?_
      refine fs_iret E hr hlk hP hS dX7_restore_45 ?_
      refine ⟨?_, ?_, (show fSame 0 239 _ _ from (fSame.tr2 (fSame.tr2 fSame.rf p_24.2 (by omega) (by omega)) sm_6 (by omega) (by omega)))⟩
      · rw [if_pos rfl, if_pos hu]
      · refine OGc_t (Or.inl ⟨rfl, hu⟩) ?_
        rw [if_pos rfl]
        exact (OGx.at0 og_5)
    · have hu : ¬ u1 = true := fun z => absurd c_17 (by rw [if_pos z]; decide)
      refine lv_bipush (v := (-5)) hx hb dX7_restore_20 (by decide) ?_
      refine fs_iret E hr hlk hP hS dX7_restore_22 ?_
      refine ⟨?_, OGc_f (fun z => z.elim (fun y => hu y.2) (fun y => nI01 y.1)) hO, fSame.rf⟩
      rw [if_pos rfl, if_neg hu]
  · refine fs_vv (y := .ref (fa g 204)) hs2 ?_
    refine lv_astore_n (lv' := [(2, .ref (fa g 204)), (0, .ref (fa g 0)), (1, .int (nI 1))]) hx hb dX7_restore_5 rfl hl (by decide) rfl (fun ls hl => ?_)
    refine lv_aload_n hx hb dX7_restore_6 rfl (lv_at hl 0 rfl) ?_
    refine lv_ifnonnull (tgt := 13) hx hb dX7_restore_7 (by decide) ?_
    refine lv_aload_n hx hb dX7_restore_13 rfl (lv_at hl 0 rfl) ?_
    refine fs_getN E hP (k := 204) (v := .int (if u2 = true then nI 1 else nI 0)) 1 fc4 o_1b0 (by omega) (by decide) (j := 17) rfl rfl dX7_restore_14 ?_
    refine lv_if_ne (tgt := 23) hx hb dX7_restore_17 (by decide) (fun c_17 => ?_) (fun c_17 => ?_)
    · have hu : u2 = true := Classical.byContradiction (fun z => c_17 (by rw [if_neg z]; rfl))
      refine lv_aload_n hx hb dX7_restore_23 rfl (lv_at hl 1 rfl) ?_
      refine fs_v (va_runV (As := []) (rest := []) E.1 (c_X7_beginChange l g N ct sv σ k hs u1 s1 u2 s2 t len (by omega) hO1) (lk_RX7_55 E.1.2.2.2.2 ⟨Nat.le_of_ble_eq_true rfl, Nat.le_of_ble_eq_true rfl⟩) (fpreV E hP hS fc7 o_1x (by omega)) rfl rfl hl.1 rfl (lv_room (Nat.le_of_ble_eq_true rfl)) dX7_restore_24 ⟨Nat.zero_le _, Nat.zero_le _⟩) hS (fun ct_8 H locs p_24 hP hS => ?_)
      obtain ⟨o_9x, o_9H, o_9G, o_9Y, o_91, o_92, o_9P, o_9V⟩ := id (p_24.1)
      have o_9n3 := o_9G.n3
      have o_9n6 := o_9G.n6
      have o_9k := o_9G.k
      obtain ⟨o_9h0, ⟨o_9fl, o_9hl, o_9lw⟩, ⟨o_9fs, o_9hs, o_9sw⟩, ⟨o_9fg, o_9hg, o_9gw⟩, ⟨o_9fr, o_9hr, o_9rw⟩, o_9ru⟩ := id o_9H
      obtain ⟨o_9n, o_9nl, o_9y0, o_9k6, -, -, -⟩ := id o_9Y
      obtain ⟨⟨o_9ws, o_9mp, o_9mw, o_9v0⟩, -⟩ := id o_9V
      have o_9p0 := o_9P.1
      have o_9p60 := o_9P.2.2.1
      have o_9a0 := o_91.1
      have o_9b0 := o_92.1
      refine lv_aload_n hx hb dX7_restore_27 rfl (lv_at hl 1 rfl) ?_
      refine fs_get E hP (k := 0) (v := .ref (fa g 1)) 0 fc7 o_9x (by omega) (by decide) (wm wl_1 (i := 16) rfl) rfl dX7_restore_28 ?_
      refine lv_aload_n hx hb dX7_restore_31 rfl (lv_at hl 0 rfl) ?_
      refine fs_getN E hP (k := 204) (v := .ref (fa g 205)) 0 fc4 o_9b0 (by omega) (by decide) (j := 16) rfl rfl dX7_restore_32 ?_
      refine fs_v (va_runV (As := [.ref (fa g 205)]) (rest := []) E.1 (c_X1_copyFrom l g N ct_8 1 205 s2 (by omega) (by omega) (by omega) (o_92.2.2 hu).2 o_9H.sh (o_92.2.2 hu).1) (lk_RX7_272 E.1.2.2.2.2 ⟨Nat.le_of_ble_eq_true rfl, Nat.le_of_ble_eq_true rfl⟩) (fpreV E hP hS fc1 o_9h0 (by omega)) rfl rfl hl.1 rfl (lv_room (Nat.le_of_ble_eq_true rfl)) dX7_restore_35 ⟨Nat.zero_le _, Nat.zero_le _⟩) hS (fun ct_10 H locs p_35 hP hS => ?_)
      have sm_12 : fSame 1 26 ct_8 ct_10 := p_35.2
      have og_11 := OGx.house p_24.1 (p_35.1) ((o_92.2.2 hu).2) sm_12
      obtain ⟨o_13x, o_13H, o_13G, o_13Y, o_131, o_132, o_13P, o_13V⟩ := id (og_11)
      have o_13n3 := o_13G.n3
      have o_13n6 := o_13G.n6
      have o_13k := o_13G.k
      obtain ⟨o_13h0, ⟨o_13fl, o_13hl, o_13lw⟩, ⟨o_13fs, o_13hs, o_13sw⟩, ⟨o_13fg, o_13hg, o_13gw⟩, ⟨o_13fr, o_13hr, o_13rw⟩, o_13ru⟩ := id o_13H
      obtain ⟨o_13n, o_13nl, o_13y0, o_13k6, -, -, -⟩ := id o_13Y
      obtain ⟨⟨o_13ws, o_13mp, o_13mw, o_13v0⟩, -⟩ := id o_13V
      have o_13p0 := o_13P.1
      have o_13p60 := o_13P.2.2.1
      have o_13a0 := o_131.1
      have o_13b0 := o_132.1
      refine lv_aload_n hx hb dX7_restore_38 rfl (lv_at hl 1 rfl) ?_
      refine fs_get E hP (k := 0) (v := .ref (fa g 1)) 0 fc7 o_13x (by omega) (by decide) (wm wl_1 (i := 16) rfl) rfl dX7_restore_39 ?_
      refine fs_getN E hP (k := 1) (v := .int (nI (nT s2))) 2 fc1 o_13h0 (by omega) (by decide) (j := 11) rfl rfl dX7_restore_42 ?_
      refine fs_iret E hr hlk hP hS dX7_restore_45 ?_
      refine ⟨?_, ?_, (show fSame 0 239 _ _ from (fSame.tr2 (fSame.tr2 fSame.rf p_24.2 (by omega) (by omega)) sm_12 (by omega) (by omega)))⟩
      · rw [if_neg nI10, if_pos rfl, if_pos hu]
      · refine OGc_t (Or.inr ⟨rfl, hu⟩) ?_
        rw [if_neg nI10]
        exact (OGx.at0 og_11)
    · have hu : ¬ u2 = true := fun z => absurd c_17 (by rw [if_pos z]; decide)
      refine lv_bipush (v := (-5)) hx hb dX7_restore_20 (by decide) ?_
      refine fs_iret E hr hlk hP hS dX7_restore_22 ?_
      refine ⟨?_, OGc_f (fun z => z.elim (fun y => nI10 y.1) (fun y => hu y.2)) hO, fSame.rf⟩
      rw [if_neg nI10, if_pos rfl, if_neg hu]
  · refine fs_vv (y := .null) hs2 ?_
    refine lv_astore_nN (lv' := [(2, .null), (0, .ref (fa g 0)), (1, .int x)]) hx hb dX7_restore_5 rfl hl (by decide) rfl (fun ls hl => ?_)
    refine lv_aload_nN hx hb dX7_restore_6 rfl (lv_at hl 0 rfl) ?_
    refine lv_ifnonnullN hx hb dX7_restore_7 ?_
    refine lv_bipush (v := (-2)) hx hb dX7_restore_10 (by decide) ?_
    refine fs_iret E hr hlk hP hS dX7_restore_12 ?_
    refine ⟨?_, OGc_f (fun z => z.elim (fun y => hx0 y.1) (fun y => hx1 y.1)) hO, fSame.rf⟩
    rw [if_neg hx0, if_neg hx1]
