/-! what the calls answer -/
abbrev sux (n : Nat) (x a b : Int32) : Prop := (0 ≤ x.toInt ∧ x.toInt ≤ 5) ∧ (0 ≤ a.toInt ∧ a.toInt < (n : Int)) ∧ ((x.toInt = 4 ∧ 0 ≤ b.toInt ∧ b.toInt ≤ 6) ∨ (x.toInt ≠ 4 ∧ (0 ≤ b.toInt ∧ b.toInt < (n : Int)) ∧ (x.toInt = 5 ∨ a.toInt ≠ b.toInt)))
theorem sux_ok {n : Nat} {x a b : Int32} (hn : n ≤ 6) (h : sux n x a b) : ∃ kd a0 b0 : Nat, x = nI kd ∧ a = nI a0 ∧ b = nI b0 ∧ okk n kd a0 b0 := by
  obtain ⟨h1, h2, h3⟩ := h
  obtain ⟨kd, hkd, rfl⟩ := fex (n := 6) h1.1 (by omega)
  obtain ⟨a0, ha, rfl⟩ := fex h2.1 h2.2
  have hb : 0 ≤ b.toInt ∧ b.toInt < ((7 : Nat) : Int) := by omega
  obtain ⟨b0, hb0, rfl⟩ := fex hb.1 hb.2
  rw [nI_toInt (by omega), nI_toInt (by omega), nI_toInt (by omega)] at h3
  exact ⟨kd, a0, b0, rfl, rfl, rfl, by omega, ha, by omega, by omega⟩
theorem nI_cl {a : Nat} (h : a < 1000000) : (nI a).toNatClampNeg = a := nI_clamp (by omega)
def howv (so : Bool) : Nat := if so = true then 1 else 2
def psF (σ : Nat → Int32) (p : Nat) (y : Int32) : Int32 := if y = nI 0 then nI (lkf σ p) else if y = nI 1 then nI 1000 + σ (9 + p) else if y = nI 2 then σ (15 + p) else if y = nI 3 then nI (cN (fun i => decide (rk σ i 0 = p)) (nT σ)) else if y = nI 4 then nI (cN (fun i => decide (rk σ i 0 = p) && hdr σ (lkf σ) i) (nT σ)) else if y = nI 5 then nI (cN (fun q => decide (lkf σ q = p)) (nB σ)) else -2
def rmF (σ : Nat → Int32) (r : Nat) (y : Int32) : Int32 := if y = nI 0 then nI (rk σ r 0) else if y = nI 1 then nI (rk σ r 1) else if y = nI 2 then nI (rk σ r 2) else if y = nI 3 then nI (rk σ r 3) else if y = nI 4 then nI (rk σ r 4) else if y = nI 5 then bI (hdr σ (lkf σ) r = true) else if y = nI 6 then nI (HDn σ r) else -2
def ctF (σ : Nat → Int32) (len k : Nat) (y : Int32) : Int32 := if y = nI 0 then nI (nB σ) else if y = nI 1 then nI (nT σ) else if y = nI 2 then nI (cN (fun i => decide (rk σ i 4 = 0)) (nT σ)) else if y = nI 3 then nI (Wn σ) else if y = nI 4 then bI (∀ i, i < nT σ → bad σ (lkf σ) i = false) else if y = nI 5 then σ 2 else if y = nI 6 then nI (cN (fun p => decide (¬ crF σ p = -6)) (nB σ)) else if y = nI 7 then nI (cN (fun r => opn σ r && decide (0 < Wn σ ∧ HDn σ r = Wn σ)) (nT σ)) else if y = nI 8 then nI (cN (fun r => opn σ r && decide (0 < Wn σ ∧ HDn σ r = 0)) (nT σ)) else if y = nI 9 then nI len else if y = nI 10 then nI k else -2
def ptF (σ : Nat → Int32) (p b : Nat) : Int32 := if lkf σ p = b then (if 0 < Wn σ ∧ LKn σ p b = Wn σ then 3 else 5) else if 0 < Wn σ ∧ LKn σ p b = 0 then -4 else -2
def shR (σ : Nat → Int32) (x : Int32) : Int32 := match shF σ with
  | none => -6
  | some b => if x = 0 then nI b else nI (WOn σ b)
def blR (σ : Nat → Int32) (x : Int32) : Int32 := if 0 < Wn σ then -6 else match blF σ with
  | none => -6
  | some b => if x = 0 then nI b else nI (ONn σ b)
def mwR (σ : Nat → Int32) (x : Int32) : Int32 := if (mwQ σ (mM σ)).2 = 0 then -6 else if x = 0 then nI (mwQ σ (mM σ)).1 else nI (mwQ σ (mM σ)).2

set_option maxRecDepth 100000 in
set_option maxHeartbeats 4000000 in
theorem c_X7_open (l : Launch) (g : fG) (N : Nat) (ct : Nat → va_E) (σ : Nat → Int32) (k : Nat) (hs : Nat → Nat → Int32) (u1 : Bool) (s1 : Nat → Int32) (u2 : Bool) (s2 : Nat → Int32) (t : Nat → Nat) (len : Nat) (hN : 239 ≤ N) (hO : OGAt g ct σ k hs u1 s1 u2 s2 t len) (x : Int32) : Met l yX7_open (wsU yX7_open cX7_open 3 (some .int)) rX7_open (fPre g N ct [.ref (fa g 0), .int x]) (fQi g N (fun r ct1 => r = (if 3 ≤ x.toInt ∧ x.toInt ≤ 6 then nI (nB σ) else -2) ∧ OGc g ct1 (3 ≤ x.toInt ∧ x.toInt ≤ 6) (sOpen x.toNatClampNeg) σ k hs u1 s1 u2 s2 t len ∧ fSame 0 239 ct ct1)) 0 0 (fB g) := by
  refine fs_start (own := RX7) (lv0 := [(0, .ref (fa g 0)), (1, .int x)]) (by decide) rfl (Nat.le_of_ble_eq_true rfl) rfl ?_
  intro p e s m args below meth c ls E hr hlk hnm hP hl hS
  have hx := E.1.1
  have hb := E.1.2.1
  obtain ⟨sv, hO1, hsv⟩ := id hO
  obtain ⟨o_1x, o_1H, o_1G, o_1Y, o_11, o_12, o_1P, o_1V⟩ := id (hO1)
  have o_1n3 := o_1G.n3
  have o_1n6 := o_1G.n6
  have o_1k := o_1G.k
  obtain ⟨o_1h0, ⟨o_1fl, o_1hl, o_1lw⟩, ⟨o_1fs, o_1hs, o_1sw⟩, ⟨o_1fg, o_1hg, o_1gw⟩, ⟨o_1fr, o_1hr, o_1rw⟩, o_1ru⟩ := id o_1H
  obtain ⟨o_1n, o_1nl, o_1y0, o_1k6, -, -, -⟩ := id o_1Y
  obtain ⟨⟨o_1ws, o_1mp, o_1mw, o_1v0⟩, -⟩ := id o_1V
  have o_1p0 := o_1P.1
  have o_1p60 := o_1P.2.2.1
  have o_1a0 := o_11.1
  have o_1b0 := o_12.1
  refine lv_iload_n hx hb dX7_open_0 rfl (lv_at hl 1 rfl) ?_
  refine lv_iconst (v := (nI 3)) hx hb dX7_open_1 (by decide) ?_
  refine lv_icmp_lt (tgt := 11) hx hb dX7_open_2 (by decide) (fun c_2 => ?_) (fun c_2 => ?_)
  · rw [fn_lt (by omega)] at c_2
    refine lv_bipush (v := (-2)) hx hb dX7_open_11 (by decide) ?_
    refine fs_iret E hr hlk hP hS dX7_open_13 ?_
    refine ⟨?_, OGc_f (by omega) hO, fSame.rf⟩
    rw [if_neg (by omega)]
  · rw [fn_lt (by omega)] at c_2
    refine lv_iload_n hx hb dX7_open_5 rfl (lv_at hl 1 rfl) ?_
    refine lv_bipush (v := (nI 6)) hx hb dX7_open_6 (by decide) ?_
    refine lv_icmp_le (tgt := 14) hx hb dX7_open_8 (by decide) (fun c_8 => ?_) (fun c_8 => ?_)
    · rw [fn_le (by omega)] at c_8
      obtain ⟨n0, hn0, rfl⟩ := fex (x := x) (n := 7) (by omega) (by omega)
      have hn3 : 3 ≤ n0 := by rw [nI_toInt (by omega)] at c_2; omega
      refine lv_aload_n hx hb dX7_open_14 rfl (lv_at hl 0 rfl) ?_
      refine fs_get E hP (k := 0) (v := .ref (fa g 1)) 0 fc7 o_1x (by omega) (by decide) (wm wl_1 (i := 13) rfl) rfl dX7_open_15 ?_
      refine fs_getN E hP (k := 1) (v := .int (nI (nB σ))) 0 fc1 o_1h0 (by omega) (by decide) (j := 8) rfl rfl dX7_open_18 ?_
      refine lv_istore_n (lv' := [(2, .int (nI (nB σ))), (0, .ref (fa g 0)), (1, .int (nI n0))]) hx hb dX7_open_21 rfl hl (by decide) rfl (fun ls hl => ?_)
      refine lv_aload_n hx hb dX7_open_22 rfl (lv_at hl 1 rfl) ?_
      refine fs_v (va_runV (As := []) (rest := []) E.1 (c_X7_beginChange l g N ct sv σ k hs u1 s1 u2 s2 t len (by omega) hO1) (lk_RX7_55 E.1.2.2.2.2 ⟨Nat.le_of_ble_eq_true rfl, Nat.le_of_ble_eq_true rfl⟩) (fpreV E hP hS fc7 o_1x (by omega)) rfl rfl hl.1 rfl (lv_room (Nat.le_of_ble_eq_true rfl)) dX7_open_23 ⟨Nat.zero_le _, Nat.zero_le _⟩) hS (fun ct_2 H locs p_23 hP hS => ?_)
      obtain ⟨o_3x, o_3H, o_3G, o_3Y, o_31, o_32, o_3P, o_3V⟩ := id (p_23.1)
      have o_3n3 := o_3G.n3
      have o_3n6 := o_3G.n6
      have o_3k := o_3G.k
      obtain ⟨o_3h0, ⟨o_3fl, o_3hl, o_3lw⟩, ⟨o_3fs, o_3hs, o_3sw⟩, ⟨o_3fg, o_3hg, o_3gw⟩, ⟨o_3fr, o_3hr, o_3rw⟩, o_3ru⟩ := id o_3H
      obtain ⟨o_3n, o_3nl, o_3y0, o_3k6, -, -, -⟩ := id o_3Y
      obtain ⟨⟨o_3ws, o_3mp, o_3mw, o_3v0⟩, -⟩ := id o_3V
      have o_3p0 := o_3P.1
      have o_3p60 := o_3P.2.2.1
      have o_3a0 := o_31.1
      have o_3b0 := o_32.1
      refine lv_aload_n hx hb dX7_open_26 rfl (lv_at hl 1 rfl) ?_
      refine fs_get E hP (k := 0) (v := .ref (fa g 1)) 0 fc7 o_3x (by omega) (by decide) (wm wl_1 (i := 13) rfl) rfl dX7_open_27 ?_
      refine lv_iload_n hx hb dX7_open_30 rfl (lv_at hl 2 rfl) ?_
      refine fs_v (va_runV (As := [.int (nI n0)]) (rest := []) E.1 (c_X1_arrange l g N ct_2 1 n0 (by omega) (by omega) (by omega) o_3H.sh) (lk_RX7_47 E.1.2.2.2.2 ⟨Nat.le_of_ble_eq_true rfl, Nat.le_of_ble_eq_true rfl⟩) (fpreV E hP hS fc1 o_3h0 (by omega)) rfl rfl hl.1 rfl (lv_room (Nat.le_of_ble_eq_true rfl)) dX7_open_31 ⟨Nat.zero_le _, Nat.zero_le _⟩) hS (fun ct_4 H locs p_31 hP hS => ?_)
      have sm_6 : fSame 1 26 ct_2 ct_4 := p_31.2
      have og_5 := OGx.house p_23.1 (p_31.1) (Good_open (by omega) (by omega)) sm_6
      obtain ⟨o_7x, o_7H, o_7G, o_7Y, o_71, o_72, o_7P, o_7V⟩ := id (og_5)
      have o_7n3 := o_7G.n3
      have o_7n6 := o_7G.n6
      have o_7k := o_7G.k
      obtain ⟨o_7h0, ⟨o_7fl, o_7hl, o_7lw⟩, ⟨o_7fs, o_7hs, o_7sw⟩, ⟨o_7fg, o_7hg, o_7gw⟩, ⟨o_7fr, o_7hr, o_7rw⟩, o_7ru⟩ := id o_7H
      obtain ⟨o_7n, o_7nl, o_7y0, o_7k6, -, -, -⟩ := id o_7Y
      obtain ⟨⟨o_7ws, o_7mp, o_7mw, o_7v0⟩, -⟩ := id o_7V
      have o_7p0 := o_7P.1
      have o_7p60 := o_7P.2.2.1
      have o_7a0 := o_71.1
      have o_7b0 := o_72.1
      refine lv_iload_n hx hb dX7_open_34 rfl (lv_at hl 0 rfl) ?_
      refine fs_iret E hr hlk hP hS dX7_open_35 ?_
      rw [nI_cl (show n0 < 1000000 by omega)]
      refine ⟨?_, OGc_t (by omega) (OGx.at0 og_5), (show fSame 0 239 _ _ from (fSame.tr2 (fSame.tr2 fSame.rf p_23.2 (by omega) (by omega)) sm_6 (by omega) (by omega)))⟩
      rw [if_pos (by omega)]
    · rw [fn_le (by omega)] at c_8
      refine lv_bipush (v := (-2)) hx hb dX7_open_11 (by decide) ?_
      refine fs_iret E hr hlk hP hS dX7_open_13 ?_
      refine ⟨?_, OGc_f (by omega) hO, fSame.rf⟩
      rw [if_neg (by omega)]

set_option maxRecDepth 100000 in
set_option maxHeartbeats 4000000 in
theorem c_X7_look (l : Launch) (g : fG) (N : Nat) (ct : Nat → va_E) (σ : Nat → Int32) (k : Nat) (hs : Nat → Nat → Int32) (u1 : Bool) (s1 : Nat → Int32) (u2 : Bool) (s2 : Nat → Int32) (t : Nat → Nat) (len : Nat) (hN : 239 ≤ N) (hO : OGAt g ct σ k hs u1 s1 u2 s2 t len) (x y : Int32) : Met l yX7_look (wsU yX7_look cX7_look 4 (some .int)) rX7_look (fPre g N ct [.ref (fa g 0), .int x, .int y]) (fQi g N (fun r ct1 => r = (if hbx σ x ∧ hbx σ y then (if x = y then -2 else nI (lkf σ x.toNatClampNeg)) else -1) ∧ OGc g ct1 ((hbx σ x ∧ hbx σ y) ∧ ¬ x = y) (upd σ (3 + x.toNatClampNeg) y) σ k hs u1 s1 u2 s2 t len ∧ fSame 0 239 ct ct1)) 0 0 (fB g) := by
  refine fs_start (own := RX7) (lv0 := [(0, .ref (fa g 0)), (1, .int x), (2, .int y)]) (by decide) rfl (Nat.le_of_ble_eq_true rfl) rfl ?_
  intro p e s m args below meth c ls E hr hlk hnm hP hl hS
  have hx := E.1.1
  have hb := E.1.2.1
  obtain ⟨sv, hO1, hsv⟩ := id hO
  obtain ⟨o_1x, o_1H, o_1G, o_1Y, o_11, o_12, o_1P, o_1V⟩ := id (hO1)
  have o_1n3 := o_1G.n3
  have o_1n6 := o_1G.n6
  have o_1k := o_1G.k
  obtain ⟨o_1h0, ⟨o_1fl, o_1hl, o_1lw⟩, ⟨o_1fs, o_1hs, o_1sw⟩, ⟨o_1fg, o_1hg, o_1gw⟩, ⟨o_1fr, o_1hr, o_1rw⟩, o_1ru⟩ := id o_1H
  obtain ⟨o_1n, o_1nl, o_1y0, o_1k6, -, -, -⟩ := id o_1Y
  obtain ⟨⟨o_1ws, o_1mp, o_1mw, o_1v0⟩, -⟩ := id o_1V
  have o_1p0 := o_1P.1
  have o_1p60 := o_1P.2.2.1
  have o_1a0 := o_11.1
  have o_1b0 := o_12.1
  refine lv_aload_n hx hb dX7_look_0 rfl (lv_at hl 0 rfl) ?_
  refine fs_get E hP (k := 0) (v := .ref (fa g 1)) 0 fc7 o_1x (by omega) (by decide) (wm wl_1 (i := 13) rfl) rfl dX7_look_1 ?_
  refine lv_iload_n hx hb dX7_look_4 rfl (lv_at hl 1 rfl) ?_
  refine fs_pi (va_runV (As := [.int x]) (rest := []) E.1 (c_X1_hasBox l g N ct 1 (nB σ) (nT σ) (σ 2) 2 3 4 5 (by omega) o_1h0 x (by omega)) (lk_RX7_58 E.1.2.2.2.2 ⟨Nat.le_of_ble_eq_true rfl, Nat.le_of_ble_eq_true rfl⟩) (fpreV E hP hS fc1 o_1h0 (by omega)) rfl rfl hl.1 rfl (lv_room (Nat.le_of_ble_eq_true rfl)) dX7_look_5 ⟨Nat.zero_le _, Nat.zero_le _⟩) hS (fun r_5 locs p_5 hS => ?_)
  refine lv_if_eq (tgt := 22) hx hb dX7_look_8 (by decide) (fun c_8 => ?_) (fun c_8 => ?_)
  · have c_8 := (fb_0 p_5).mp c_8
    refine lv_iconst (v := (-1)) hx hb dX7_look_22 (by decide) ?_
    refine fs_iret E hr hlk hP hS dX7_look_23 ?_
    refine ⟨?_, OGc_f (fun z => by have := z.1; omega) hO, fSame.rf⟩
    rw [if_neg (by omega)]
  · have c_8 := (fb_1 p_5).mp c_8
    refine lv_aload_n hx hb dX7_look_11 rfl (lv_at hl 0 rfl) ?_
    refine fs_get E hP (k := 0) (v := .ref (fa g 1)) 0 fc7 o_1x (by omega) (by decide) (wm wl_1 (i := 13) rfl) rfl dX7_look_12 ?_
    refine lv_iload_n hx hb dX7_look_15 rfl (lv_at hl 2 rfl) ?_
    refine fs_pi (va_runV (As := [.int y]) (rest := []) E.1 (c_X1_hasBox l g N ct 1 (nB σ) (nT σ) (σ 2) 2 3 4 5 (by omega) o_1h0 y (by omega)) (lk_RX7_58 E.1.2.2.2.2 ⟨Nat.le_of_ble_eq_true rfl, Nat.le_of_ble_eq_true rfl⟩) (fpreV E hP hS fc1 o_1h0 (by omega)) rfl rfl hl.1 rfl (lv_room (Nat.le_of_ble_eq_true rfl)) dX7_look_16 ⟨Nat.zero_le _, Nat.zero_le _⟩) hS (fun r_16 locs p_16 hS => ?_)
    refine lv_if_ne (tgt := 24) hx hb dX7_look_19 (by decide) (fun c_19 => ?_) (fun c_19 => ?_)
    · have c_19 := (fb_1 p_16).mp c_19
      refine lv_iload_n hx hb dX7_look_24 rfl (lv_at hl 1 rfl) ?_
      refine lv_iload_n hx hb dX7_look_25 rfl (lv_at hl 2 rfl) ?_
      refine lv_icmp_ne (tgt := 32) hx hb dX7_look_26 (by decide) (fun c_26 => ?_) (fun c_26 => ?_)
      · obtain ⟨p0, hp0, rfl⟩ := fex c_8.1 c_8.2
        obtain ⟨q0, hq0, rfl⟩ := fex c_19.1 c_19.2
        have hne : ¬ p0 = q0 := fun z => c_26 (by rw [z])
        refine lv_aload_n hx hb dX7_look_32 rfl (lv_at hl 0 rfl) ?_
        refine fs_get E hP (k := 0) (v := .ref (fa g 1)) 0 fc7 o_1x (by omega) (by decide) (wm wl_1 (i := 13) rfl) rfl dX7_look_33 ?_
        refine fs_getN E hP (k := 1) (v := .ref (fa g 2)) 3 fc1 o_1h0 (by omega) (by decide) (j := 12) rfl rfl dX7_look_36 ?_
        refine lv_iload_n hx hb dX7_look_39 rfl (lv_at hl 1 rfl) ?_
        refine fs_pi (va_runS (As := [.ref (fa g 2), .int (nI p0)]) (rest := []) E.1 (c_X7_at l g N ct 2 6 o_1fl (nI p0) (by omega) (by omega) o_1hl) (lk_RX7_66 E.1.2.2.2.2 ⟨Nat.le_of_ble_eq_true rfl, Nat.le_of_ble_eq_true rfl⟩) (fpreS E hP hS) rfl rfl hl.1 rfl (lv_room (Nat.le_of_ble_eq_true rfl)) dX7_look_40 ⟨Nat.zero_le _, Nat.zero_le _⟩) hS (fun r_40 locs p_40 hS => ?_)
        refine fs_vi (y := (nI (lkf σ p0))) (p_40.trans ((atF_in (by omega) (by omega)).trans (o_1lw.in hp0 (by omega)))) ?_
        refine lv_istore_n (lv' := [(3, .int (nI (lkf σ p0))), (0, .ref (fa g 0)), (1, .int (nI p0)), (2, .int (nI q0))]) hx hb dX7_look_43 rfl hl (by decide) rfl (fun ls hl => ?_)
        refine lv_aload_n hx hb dX7_look_44 rfl (lv_at hl 1 rfl) ?_
        refine fs_v (va_runV (As := []) (rest := []) E.1 (c_X7_beginChange l g N ct sv σ k hs u1 s1 u2 s2 t len (by omega) hO1) (lk_RX7_55 E.1.2.2.2.2 ⟨Nat.le_of_ble_eq_true rfl, Nat.le_of_ble_eq_true rfl⟩) (fpreV E hP hS fc7 o_1x (by omega)) rfl rfl hl.1 rfl (lv_room (Nat.le_of_ble_eq_true rfl)) dX7_look_45 ⟨Nat.zero_le _, Nat.zero_le _⟩) hS (fun ct_2 H locs p_45 hP hS => ?_)
        obtain ⟨o_3x, o_3H, o_3G, o_3Y, o_31, o_32, o_3P, o_3V⟩ := id (p_45.1)
        have o_3n3 := o_3G.n3
        have o_3n6 := o_3G.n6
        have o_3k := o_3G.k
        obtain ⟨o_3h0, ⟨o_3fl, o_3hl, o_3lw⟩, ⟨o_3fs, o_3hs, o_3sw⟩, ⟨o_3fg, o_3hg, o_3gw⟩, ⟨o_3fr, o_3hr, o_3rw⟩, o_3ru⟩ := id o_3H
        obtain ⟨o_3n, o_3nl, o_3y0, o_3k6, -, -, -⟩ := id o_3Y
        obtain ⟨⟨o_3ws, o_3mp, o_3mw, o_3v0⟩, -⟩ := id o_3V
        have o_3p0 := o_3P.1
        have o_3p60 := o_3P.2.2.1
        have o_3a0 := o_31.1
        have o_3b0 := o_32.1
        refine lv_aload_n hx hb dX7_look_48 rfl (lv_at hl 1 rfl) ?_
        refine fs_get E hP (k := 0) (v := .ref (fa g 1)) 0 fc7 o_3x (by omega) (by decide) (wm wl_1 (i := 13) rfl) rfl dX7_look_49 ?_
        refine fs_getN E hP (k := 1) (v := .ref (fa g 2)) 3 fc1 o_3h0 (by omega) (by decide) (j := 12) rfl rfl dX7_look_52 ?_
        refine lv_iload_n hx hb dX7_look_55 rfl (lv_at hl 2 rfl) ?_
        refine lv_iload_n hx hb dX7_look_56 rfl (lv_at hl 3 rfl) ?_
        refine fs_v (va_runS (As := [.ref (fa g 2), .int (nI p0), .int (nI q0)]) (rest := []) E.1 (c_X7_setAt l g N ct_2 2 6 o_3fl (nI p0) (nI q0) (by omega) (by omega) o_3hl) (lk_RX7_70 E.1.2.2.2.2 ⟨Nat.le_of_ble_eq_true rfl, Nat.le_of_ble_eq_true rfl⟩) (fpreS E hP hS) rfl rfl hl.1 rfl (lv_room (Nat.le_of_ble_eq_true rfl)) dX7_look_57 ⟨Nat.zero_le _, Nat.zero_le _⟩) hS (fun ct_4 H locs p_57 hP hS => ?_)
        rw [stF_in (by omega) (by omega)] at p_57
        have sm_6 : fSame 1 26 ct_2 ct_4 := by rw [p_57]; exact fSame.up (by omega) (by omega)
        have og_5 := OGx.house p_45.1 (HouseAt.look o_3H hp0 o_3n6 (by omega) o_3hl p_57) (Good_look o_3G hp0 hq0 hne) sm_6
        obtain ⟨o_7x, o_7H, o_7G, o_7Y, o_71, o_72, o_7P, o_7V⟩ := id (og_5)
        have o_7n3 := o_7G.n3
        have o_7n6 := o_7G.n6
        have o_7k := o_7G.k
        obtain ⟨o_7h0, ⟨o_7fl, o_7hl, o_7lw⟩, ⟨o_7fs, o_7hs, o_7sw⟩, ⟨o_7fg, o_7hg, o_7gw⟩, ⟨o_7fr, o_7hr, o_7rw⟩, o_7ru⟩ := id o_7H
        obtain ⟨o_7n, o_7nl, o_7y0, o_7k6, -, -, -⟩ := id o_7Y
        obtain ⟨⟨o_7ws, o_7mp, o_7mw, o_7v0⟩, -⟩ := id o_7V
        have o_7p0 := o_7P.1
        have o_7p60 := o_7P.2.2.1
        have o_7a0 := o_71.1
        have o_7b0 := o_72.1
        refine lv_iload_n hx hb dX7_look_60 rfl (lv_at hl 0 rfl) ?_
        refine fs_iret E hr hlk hP hS dX7_look_61 ?_
        rw [nI_cl (show p0 < 1000000 by omega)]
        refine ⟨?_, OGc_t ⟨⟨c_8, c_19⟩, c_26⟩ (OGx.at0 og_5), (show fSame 0 239 _ _ from (fSame.tr2 (fSame.tr2 fSame.rf p_45.2 (by omega) (by omega)) sm_6 (by omega) (by omega)))⟩
        rw [if_pos ⟨c_8, c_19⟩, if_neg c_26]
      · refine lv_bipush (v := (-2)) hx hb dX7_look_29 (by decide) ?_
        refine fs_iret E hr hlk hP hS dX7_look_31 ?_
        refine ⟨?_, OGc_f (fun z => z.2 c_26) hO, fSame.rf⟩
        rw [if_pos ⟨c_8, c_19⟩, if_pos c_26]
    · have c_19 := (fb_0 p_16).mp c_19
      refine lv_iconst (v := (-1)) hx hb dX7_look_22 (by decide) ?_
      refine fs_iret E hr hlk hP hS dX7_look_23 ?_
      refine ⟨?_, OGc_f (fun z => by have := z.1; omega) hO, fSame.rf⟩
      rw [if_neg (by omega)]

set_option maxRecDepth 100000 in
set_option maxHeartbeats 4000000 in
theorem c_X7_tell (l : Launch) (g : fG) (N : Nat) (ct : Nat → va_E) (σ : Nat → Int32) (k : Nat) (hs : Nat → Nat → Int32) (u1 : Bool) (s1 : Nat → Int32) (u2 : Bool) (s2 : Nat → Int32) (t : Nat → Nat) (len : Nat) (hN : 239 ≤ N) (hO : OGAt g ct σ k hs u1 s1 u2 s2 t len) (x y z v : Int32) : Met l yX7_tell (wsU yX7_tell cX7_tell 5 (some .int)) rX7_tell (fPre g N ct [.ref (fa g 0), .int x, .int y, .int z, .int v]) (fQi g N (fun r ct1 => r = (if hbx σ x then (if sux (nB σ) y z v then (if nT σ + 1 ≤ 20 then nI (nT σ) else -4) else -2) else -1) ∧ OGc g ct1 (hbx σ x ∧ sux (nB σ) y z v ∧ nT σ + 1 ≤ 20) (sTell σ x.toNatClampNeg y.toNatClampNeg z.toNatClampNeg v.toNatClampNeg) σ k hs u1 s1 u2 s2 t len ∧ fSame 0 239 ct ct1)) 0 0 (fB g) := by
  refine fs_start (own := RX7) (lv0 := [(0, .ref (fa g 0)), (1, .int x), (2, .int y), (3, .int z), (4, .int v)]) (by decide) rfl (Nat.le_of_ble_eq_true rfl) rfl ?_
  intro p e s m args below meth c ls E hr hlk hnm hP hl hS
  have hx := E.1.1
  have hb := E.1.2.1
  obtain ⟨sv, hO1, hsv⟩ := id hO
  obtain ⟨o_1x, o_1H, o_1G, o_1Y, o_11, o_12, o_1P, o_1V⟩ := id (hO1)
  have o_1n3 := o_1G.n3
  have o_1n6 := o_1G.n6
  have o_1k := o_1G.k
  obtain ⟨o_1h0, ⟨o_1fl, o_1hl, o_1lw⟩, ⟨o_1fs, o_1hs, o_1sw⟩, ⟨o_1fg, o_1hg, o_1gw⟩, ⟨o_1fr, o_1hr, o_1rw⟩, o_1ru⟩ := id o_1H
  obtain ⟨o_1n, o_1nl, o_1y0, o_1k6, -, -, -⟩ := id o_1Y
  obtain ⟨⟨o_1ws, o_1mp, o_1mw, o_1v0⟩, -⟩ := id o_1V
  have o_1p0 := o_1P.1
  have o_1p60 := o_1P.2.2.1
  have o_1a0 := o_11.1
  have o_1b0 := o_12.1
  refine lv_aload_n hx hb dX7_tell_0 rfl (lv_at hl 0 rfl) ?_
  refine fs_get E hP (k := 0) (v := .ref (fa g 1)) 0 fc7 o_1x (by omega) (by decide) (wm wl_1 (i := 13) rfl) rfl dX7_tell_1 ?_
  refine lv_iload_n hx hb dX7_tell_4 rfl (lv_at hl 1 rfl) ?_
  refine fs_pi (va_runV (As := [.int x]) (rest := []) E.1 (c_X1_hasBox l g N ct 1 (nB σ) (nT σ) (σ 2) 2 3 4 5 (by omega) o_1h0 x (by omega)) (lk_RX7_58 E.1.2.2.2.2 ⟨Nat.le_of_ble_eq_true rfl, Nat.le_of_ble_eq_true rfl⟩) (fpreV E hP hS fc1 o_1h0 (by omega)) rfl rfl hl.1 rfl (lv_room (Nat.le_of_ble_eq_true rfl)) dX7_tell_5 ⟨Nat.zero_le _, Nat.zero_le _⟩) hS (fun r_5 locs p_5 hS => ?_)
  refine lv_if_ne (tgt := 13) hx hb dX7_tell_8 (by decide) (fun c_8 => ?_) (fun c_8 => ?_)
  · have c_8 := (fb_1 p_5).mp c_8
    refine lv_aload_n hx hb dX7_tell_13 rfl (lv_at hl 0 rfl) ?_
    refine fs_get E hP (k := 0) (v := .ref (fa g 1)) 0 fc7 o_1x (by omega) (by decide) (wm wl_1 (i := 13) rfl) rfl dX7_tell_14 ?_
    refine lv_iload_n hx hb dX7_tell_17 rfl (lv_at hl 2 rfl) ?_
    refine lv_iload_n hx hb dX7_tell_18 rfl (lv_at hl 3 rfl) ?_
    refine lv_iload hx hb dX7_tell_19 (lv_at hl 4 rfl) ?_
    refine fs_pi (va_runV (As := [.int y, .int z, .int v]) (rest := []) E.1 (c_X1_suits l g N ct 1 (nB σ) (nT σ) (σ 2) 2 3 4 5 (by omega) o_1h0 y z v (by omega)) (lk_RX7_74 E.1.2.2.2.2 ⟨Nat.le_of_ble_eq_true rfl, Nat.le_of_ble_eq_true rfl⟩) (fpreV E hP hS fc1 o_1h0 (by omega)) rfl rfl hl.1 rfl (lv_room (Nat.le_of_ble_eq_true rfl)) dX7_tell_21 ⟨Nat.zero_le _, Nat.zero_le _⟩) hS (fun r_21 locs p_21 hS => ?_)
    refine lv_if_ne (tgt := 30) hx hb dX7_tell_24 (by decide) (fun c_24 => ?_) (fun c_24 => ?_)
    · have c_24 := (fb_1 p_21).mp c_24
      refine lv_aload_n hx hb dX7_tell_30 rfl (lv_at hl 0 rfl) ?_
      refine fs_get E hP (k := 0) (v := .ref (fa g 1)) 0 fc7 o_1x (by omega) (by decide) (wm wl_1 (i := 13) rfl) rfl dX7_tell_31 ?_
      refine lv_iconst (v := (nI 1)) hx hb dX7_tell_34 (by decide) ?_
      refine fs_pi (va_runV (As := [.int (nI 1)]) (rest := []) E.1 (c_X1_hasRoomFor l g N ct 1 (nB σ) (nT σ) (σ 2) 2 3 4 5 (by omega) o_1h0 1 (by omega) (by omega)) (lk_RX7_78 E.1.2.2.2.2 ⟨Nat.le_of_ble_eq_true rfl, Nat.le_of_ble_eq_true rfl⟩) (fpreV E hP hS fc1 o_1h0 (by omega)) rfl rfl hl.1 rfl (lv_room (Nat.le_of_ble_eq_true rfl)) dX7_tell_35 ⟨Nat.zero_le _, Nat.zero_le _⟩) hS (fun r_35 locs p_35 hS => ?_)
      refine lv_if_ne (tgt := 44) hx hb dX7_tell_38 (by decide) (fun c_38 => ?_) (fun c_38 => ?_)
      · have c_38 := (fb_1 p_35).mp c_38
        obtain ⟨p0, hp0, rfl⟩ := fex c_8.1 c_8.2
        obtain ⟨kd, a0, b0, rfl, rfl, rfl, hok⟩ := sux_ok (by omega) c_24
        have hok1 := hok.1
        have hok2 := hok.2.1
        have hok3 : b0 ≤ 6 := by have := hok.2.2.1; have := hok.2.2.2; omega
        refine lv_aload_n hx hb dX7_tell_44 rfl (lv_at hl 0 rfl) ?_
        refine fs_v (va_runV (As := []) (rest := []) E.1 (c_X7_beginChange l g N ct sv σ k hs u1 s1 u2 s2 t len (by omega) hO1) (lk_RX7_55 E.1.2.2.2.2 ⟨Nat.le_of_ble_eq_true rfl, Nat.le_of_ble_eq_true rfl⟩) (fpreV E hP hS fc7 o_1x (by omega)) rfl rfl hl.1 rfl (lv_room (Nat.le_of_ble_eq_true rfl)) dX7_tell_45 ⟨Nat.zero_le _, Nat.zero_le _⟩) hS (fun ct_2 H locs p_45 hP hS => ?_)
        obtain ⟨o_3x, o_3H, o_3G, o_3Y, o_31, o_32, o_3P, o_3V⟩ := id (p_45.1)
        have o_3n3 := o_3G.n3
        have o_3n6 := o_3G.n6
        have o_3k := o_3G.k
        obtain ⟨o_3h0, ⟨o_3fl, o_3hl, o_3lw⟩, ⟨o_3fs, o_3hs, o_3sw⟩, ⟨o_3fg, o_3hg, o_3gw⟩, ⟨o_3fr, o_3hr, o_3rw⟩, o_3ru⟩ := id o_3H
        obtain ⟨o_3n, o_3nl, o_3y0, o_3k6, -, -, -⟩ := id o_3Y
        obtain ⟨⟨o_3ws, o_3mp, o_3mw, o_3v0⟩, -⟩ := id o_3V
        have o_3p0 := o_3P.1
        have o_3p60 := o_3P.2.2.1
        have o_3a0 := o_31.1
        have o_3b0 := o_32.1
        refine lv_aload_n hx hb dX7_tell_48 rfl (lv_at hl 0 rfl) ?_
        refine fs_get E hP (k := 0) (v := .ref (fa g 1)) 0 fc7 o_3x (by omega) (by decide) (wm wl_1 (i := 13) rfl) rfl dX7_tell_49 ?_
        refine lv_iload_n hx hb dX7_tell_52 rfl (lv_at hl 1 rfl) ?_
        refine lv_iload_n hx hb dX7_tell_53 rfl (lv_at hl 2 rfl) ?_
        refine lv_iload_n hx hb dX7_tell_54 rfl (lv_at hl 3 rfl) ?_
        refine lv_iload hx hb dX7_tell_55 (lv_at hl 4 rfl) ?_
        refine fs_v (va_runV (As := [.int (nI p0), .int (nI kd), .int (nI a0), .int (nI b0)]) (rest := []) E.1 (c_X1_addRumour l g N ct_2 1 σ p0 kd a0 b0 (by omega) o_3G (by omega) hp0 hok o_3H) (lk_RX7_81 E.1.2.2.2.2 ⟨Nat.le_of_ble_eq_true rfl, Nat.le_of_ble_eq_true rfl⟩) (fpreV E hP hS fc1 o_3h0 (by omega)) rfl rfl hl.1 rfl (lv_room (Nat.le_of_ble_eq_true rfl)) dX7_tell_57 ⟨Nat.zero_le _, Nat.zero_le _⟩) hS (fun ct_4 H locs p_57 hP hS => ?_)
        have sm_6 : fSame 1 26 ct_2 ct_4 := p_57.2
        have og_5 := OGx.house p_45.1 (p_57.1) (Good_tell o_3G (by omega) hp0 hok) sm_6
        obtain ⟨o_7x, o_7H, o_7G, o_7Y, o_71, o_72, o_7P, o_7V⟩ := id (og_5)
        have o_7n3 := o_7G.n3
        have o_7n6 := o_7G.n6
        have o_7k := o_7G.k
        obtain ⟨o_7h0, ⟨o_7fl, o_7hl, o_7lw⟩, ⟨o_7fs, o_7hs, o_7sw⟩, ⟨o_7fg, o_7hg, o_7gw⟩, ⟨o_7fr, o_7hr, o_7rw⟩, o_7ru⟩ := id o_7H
        obtain ⟨o_7n, o_7nl, o_7y0, o_7k6, -, -, -⟩ := id o_7Y
        obtain ⟨⟨o_7ws, o_7mp, o_7mw, o_7v0⟩, -⟩ := id o_7V
        have o_7p0 := o_7P.1
        have o_7p60 := o_7P.2.2.1
        have o_7a0 := o_71.1
        have o_7b0 := o_72.1
        refine lv_aload_n hx hb dX7_tell_60 rfl (lv_at hl 0 rfl) ?_
        refine fs_get E hP (k := 0) (v := .ref (fa g 1)) 0 fc7 o_7x (by omega) (by decide) (wm wl_1 (i := 13) rfl) rfl dX7_tell_61 ?_
        refine fs_getN E hP (k := 1) (v := .int (nI (nT (sTell σ p0 kd a0 b0)))) 2 fc1 o_7h0 (by omega) (by decide) (j := 11) rfl rfl dX7_tell_64 ?_
        refine lv_iconst (v := (nI 1)) hx hb dX7_tell_67 (by decide) ?_
        refine lv_isub hx hb dX7_tell_68 ?_
        refine fs_vi (y := (nI (nT σ))) (by rw [nT_tell (by omega), pk_sub (by omega)]; rfl) ?_
        refine fs_iret E hr hlk hP hS dX7_tell_69 ?_
        rw [nI_cl (show p0 < 1000000 by omega)]
        rw [nI_cl (show kd < 1000000 by omega)]
        rw [nI_cl (show a0 < 1000000 by omega)]
        rw [nI_cl (show b0 < 1000000 by omega)]
        refine ⟨?_, OGc_t ⟨c_8, c_24, c_38⟩ (OGx.at0 og_5), (show fSame 0 239 _ _ from (fSame.tr2 (fSame.tr2 fSame.rf p_45.2 (by omega) (by omega)) sm_6 (by omega) (by omega)))⟩
        rw [if_pos c_8, if_pos c_24, if_pos c_38]
      · have c_38 := (fb_0 p_35).mp c_38
        refine lv_bipush (v := (-4)) hx hb dX7_tell_41 (by decide) ?_
        refine fs_iret E hr hlk hP hS dX7_tell_43 ?_
        refine ⟨?_, OGc_f (fun z => c_38 z.2.2) hO, fSame.rf⟩
        rw [if_pos c_8, if_pos c_24, if_neg c_38]
    · have c_24 := (fb_0 p_21).mp c_24
      refine lv_bipush (v := (-2)) hx hb dX7_tell_27 (by decide) ?_
      refine fs_iret E hr hlk hP hS dX7_tell_29 ?_
      refine ⟨?_, OGc_f (fun z => c_24 z.2.1) hO, fSame.rf⟩
      rw [if_pos c_8, if_neg c_24]
  · have c_8 := (fb_0 p_5).mp c_8
    refine lv_iconst (v := (-1)) hx hb dX7_tell_11 (by decide) ?_
    refine fs_iret E hr hlk hP hS dX7_tell_12 ?_
    refine ⟨?_, OGc_f (fun z => c_8 z.1) hO, fSame.rf⟩
    rw [if_neg c_8]

set_option maxRecDepth 100000 in
set_option maxHeartbeats 4000000 in
theorem c_X7_prove (l : Launch) (g : fG) (N : Nat) (ct : Nat → va_E) (σ : Nat → Int32) (k : Nat) (hs : Nat → Nat → Int32) (u1 : Bool) (s1 : Nat → Int32) (u2 : Bool) (s2 : Nat → Int32) (t : Nat → Nat) (len : Nat) (hN : 239 ≤ N) (hO : OGAt g ct σ k hs u1 s1 u2 s2 t len) (x : Int32) (so : Bool) : Met l yX7_prove (wsU yX7_prove cX7_prove 4 (some .int)) rX7_prove (fPre g N ct [.ref (fa g 0), .int x, .int (bI (so = true))]) (fQi g N (fun r ct1 => r = (if hrx σ x then (if rk σ x.toNatClampNeg 4 = 0 then nI (Wn (upd σ (25 + 5 * x.toNatClampNeg) (nI (howv so)))) else -5) else -1) ∧ OGc g ct1 (hrx σ x ∧ rk σ x.toNatClampNeg 4 = 0) (upd σ (25 + 5 * x.toNatClampNeg) (nI (howv so))) σ k hs u1 s1 u2 s2 t len ∧ fSame 0 239 ct ct1)) 0 0 (fB g) := by
  refine fs_start (own := RX7) (lv0 := [(0, .ref (fa g 0)), (1, .int x), (2, .int (bI (so = true)))]) (by decide) rfl (Nat.le_of_ble_eq_true rfl) rfl ?_
  intro p e s m args below meth c ls E hr hlk hnm hP hl hS
  have hx := E.1.1
  have hb := E.1.2.1
  obtain ⟨sv, hO1, hsv⟩ := id hO
  obtain ⟨o_1x, o_1H, o_1G, o_1Y, o_11, o_12, o_1P, o_1V⟩ := id (hO1)
  have o_1n3 := o_1G.n3
  have o_1n6 := o_1G.n6
  have o_1k := o_1G.k
  obtain ⟨o_1h0, ⟨o_1fl, o_1hl, o_1lw⟩, ⟨o_1fs, o_1hs, o_1sw⟩, ⟨o_1fg, o_1hg, o_1gw⟩, ⟨o_1fr, o_1hr, o_1rw⟩, o_1ru⟩ := id o_1H
  obtain ⟨o_1n, o_1nl, o_1y0, o_1k6, -, -, -⟩ := id o_1Y
  obtain ⟨⟨o_1ws, o_1mp, o_1mw, o_1v0⟩, -⟩ := id o_1V
  have o_1p0 := o_1P.1
  have o_1p60 := o_1P.2.2.1
  have o_1a0 := o_11.1
  have o_1b0 := o_12.1
  refine lv_aload_n hx hb dX7_prove_0 rfl (lv_at hl 0 rfl) ?_
  refine fs_get E hP (k := 0) (v := .ref (fa g 1)) 0 fc7 o_1x (by omega) (by decide) (wm wl_1 (i := 13) rfl) rfl dX7_prove_1 ?_
  refine lv_iload_n hx hb dX7_prove_4 rfl (lv_at hl 1 rfl) ?_
  refine fs_pr (va_runV (As := [.int x]) (rest := []) E.1 (c_X1_rumourAt l g N ct 1 (nT σ) _ _ o_1fr x (by omega) (by omega) o_1h0 o_1hr o_1rw) (lk_RX7_118 E.1.2.2.2.2 ⟨Nat.le_of_ble_eq_true rfl, Nat.le_of_ble_eq_true rfl⟩) (fpreV E hP hS fc1 o_1h0 (by omega)) rfl rfl hl.1 rfl (lv_room (Nat.le_of_ble_eq_true rfl)) dX7_prove_5 ⟨Nat.zero_le _, Nat.zero_le _⟩) hS (fun r_5 locs p_5 hS => ?_)
  rcases p_5 with ⟨p0, hp0, rfl, hr5⟩ | ⟨hout, hr5⟩
  · refine fs_vv (y := .ref (fa g (6 + p0))) hr5 ?_
    have u_2st := (o_1G.r hp0).2.2.2
    obtain ⟨_, _, _, _, _, u_2, u_2e⟩ := o_1ru p0 (by omega)
    obtain ⟨rfl, rfl, rfl, rfl, rfl⟩ := u_2e hp0
    refine lv_astore_n (lv' := [(3, .ref (fa g (6 + p0))), (0, .ref (fa g 0)), (1, .int (nI p0)), (2, .int (bI (so = true)))]) hx hb dX7_prove_8 rfl hl (by decide) rfl (fun ls hl => ?_)
    refine lv_aload_n hx hb dX7_prove_9 rfl (lv_at hl 0 rfl) ?_
    refine lv_ifnonnull (tgt := 15) hx hb dX7_prove_10 (by decide) ?_
    have hrx0 : hrx σ (nI p0) := ⟨by rw [nI_toInt (by omega)]; omega, by rw [nI_toInt (by omega)]; omega⟩
    refine lv_aload_n hx hb dX7_prove_15 rfl (lv_at hl 0 rfl) ?_
    refine fs_getN E hP (k := (6 + p0)) (v := .int (nI (rk σ p0 4))) 4 fc3 u_2 (by omega) (by decide) (j := 5) rfl rfl dX7_prove_16 ?_
    refine lv_if_eq (tgt := 25) hx hb dX7_prove_19 (by decide) (fun c_19 => ?_) (fun c_19 => ?_)
    · rw [fz_eqN (by omega)] at c_19
      refine lv_aload_n hx hb dX7_prove_25 rfl (lv_at hl 1 rfl) ?_
      refine fs_v (va_runV (As := []) (rest := []) E.1 (c_X7_beginChange l g N ct sv σ k hs u1 s1 u2 s2 t len (by omega) hO1) (lk_RX7_55 E.1.2.2.2.2 ⟨Nat.le_of_ble_eq_true rfl, Nat.le_of_ble_eq_true rfl⟩) (fpreV E hP hS fc7 o_1x (by omega)) rfl rfl hl.1 rfl (lv_room (Nat.le_of_ble_eq_true rfl)) dX7_prove_26 ⟨Nat.zero_le _, Nat.zero_le _⟩) hS (fun ct_3 H locs p_26 hP hS => ?_)
      obtain ⟨o_4x, o_4H, o_4G, o_4Y, o_41, o_42, o_4P, o_4V⟩ := id (p_26.1)
      have o_4n3 := o_4G.n3
      have o_4n6 := o_4G.n6
      have o_4k := o_4G.k
      obtain ⟨o_4h0, ⟨o_4fl, o_4hl, o_4lw⟩, ⟨o_4fs, o_4hs, o_4sw⟩, ⟨o_4fg, o_4hg, o_4gw⟩, ⟨o_4fr, o_4hr, o_4rw⟩, o_4ru⟩ := id o_4H
      obtain ⟨o_4n, o_4nl, o_4y0, o_4k6, -, -, -⟩ := id o_4Y
      obtain ⟨⟨o_4ws, o_4mp, o_4mw, o_4v0⟩, -⟩ := id o_4V
      have o_4p0 := o_4P.1
      have o_4p60 := o_4P.2.2.1
      have o_4a0 := o_41.1
      have o_4b0 := o_42.1
      have u_5st := (o_4G.r hp0).2.2.2
      obtain ⟨_, _, _, _, _, u_5, u_5e⟩ := o_4ru p0 (by omega)
      obtain ⟨rfl, rfl, rfl, rfl, rfl⟩ := u_5e hp0
      refine lv_aload_n hx hb dX7_prove_29 rfl (lv_at hl 0 rfl) ?_
      refine lv_iload_n hx hb dX7_prove_30 rfl (lv_at hl 3 rfl) ?_
      refine fs_v (va_runV (As := [.int (bI (so = true))]) (rest := []) E.1 (c_X3_decide l g N ct_3 (6 + p0) (nI (rk σ p0 0)) (nI (rk σ p0 1)) (nI (rk σ p0 2)) (nI (rk σ p0 3)) (nI (rk σ p0 4)) (bI (so = true)) (so = true) inferInstance rfl (by omega) u_5) (lk_RX7_127 E.1.2.2.2.2 ⟨Nat.le_of_ble_eq_true rfl, Nat.le_of_ble_eq_true rfl⟩) (fpreV E hP hS fc3 u_5 (by omega)) rfl rfl hl.1 rfl (lv_room (Nat.le_of_ble_eq_true rfl)) dX7_prove_31 ⟨Nat.zero_le _, Nat.zero_le _⟩) hS (fun ct_6 H locs p_31 hP hS => ?_)
      have sm_8 : fSame 1 26 ct_3 ct_6 := by rw [p_31]; exact fSame.up (by omega) (by omega)
      have og_7 := OGx.house p_26.1 (HouseAt.how o_4H hp0 (by omega) (show (howv so) < 2147483648 by unfold howv; split <;> omega) ⟨rfl, rfl, rfl, rfl⟩ p_31) (Good_how o_4G (by unfold howv; split <;> omega)) sm_8
      obtain ⟨o_9x, o_9H, o_9G, o_9Y, o_91, o_92, o_9P, o_9V⟩ := id (og_7)
      have o_9n3 := o_9G.n3
      have o_9n6 := o_9G.n6
      have o_9k := o_9G.k
      obtain ⟨o_9h0, ⟨o_9fl, o_9hl, o_9lw⟩, ⟨o_9fs, o_9hs, o_9sw⟩, ⟨o_9fg, o_9hg, o_9gw⟩, ⟨o_9fr, o_9hr, o_9rw⟩, o_9ru⟩ := id o_9H
      obtain ⟨o_9n, o_9nl, o_9y0, o_9k6, -, -, -⟩ := id o_9Y
      obtain ⟨⟨o_9ws, o_9mp, o_9mw, o_9v0⟩, -⟩ := id o_9V
      have o_9p0 := o_9P.1
      have o_9p60 := o_9P.2.2.1
      have o_9a0 := o_91.1
      have o_9b0 := o_92.1
      refine lv_aload_n hx hb dX7_prove_34 rfl (lv_at hl 1 rfl) ?_
      refine fs_r (va_runV (As := []) (rest := []) E.1 (c_X7_surveyNow l g N ct_6 (upd σ (25 + 5 * p0) (nI (howv so))) (min (k + 1) 6) (recH σ hs) u1 s1 u2 s2 t len (by omega) (OGx.at0 og_7)) (lk_RX7_131 E.1.2.2.2.2 ⟨Nat.le_of_ble_eq_true rfl, Nat.le_of_ble_eq_true rfl⟩) (fpreV E hP hS fc7 o_9x (by omega)) rfl rfl hl.1 rfl (lv_room (Nat.le_of_ble_eq_true rfl)) dX7_prove_35 ⟨Nat.zero_le _, Nat.zero_le _⟩) hS (fun r_35 ct_10 H locs p_35 hP hS => ?_)
      refine fs_vv (y := .ref (fa g 232)) p_35.1 ?_
      obtain ⟨o_11x, o_11H, o_11G, o_11Y, o_111, o_112, o_11P, o_11V⟩ := id (p_35.2.1)
      have o_11n3 := o_11G.n3
      have o_11n6 := o_11G.n6
      have o_11k := o_11G.k
      obtain ⟨o_11h0, ⟨o_11fl, o_11hl, o_11lw⟩, ⟨o_11fs, o_11hs, o_11sw⟩, ⟨o_11fg, o_11hg, o_11gw⟩, ⟨o_11fr, o_11hr, o_11rw⟩, o_11ru⟩ := id o_11H
      obtain ⟨o_11n, o_11nl, o_11y0, o_11k6, -, -, -⟩ := id o_11Y
      obtain ⟨⟨o_11mp, o_11mw, o_11v0⟩, ⟨o_11fv, o_11v3, o_11vw⟩, ⟨o_11fo, o_11v4, o_11ow⟩, ⟨o_11fb, o_11v5, o_11bw⟩⟩ := id (p_35.2.2.1)
      have o_11p0 := o_11P.1
      have o_11p60 := o_11P.2.2.1
      have o_11a0 := o_111.1
      have o_11b0 := o_112.1
      refine fs_getN E hP (k := 232) (v := .int (nI (Wn (upd σ (25 + 5 * p0) (nI (howv so)))))) 1 fc5 o_11v0 (by omega) (by decide) (j := 18) rfl rfl dX7_prove_38 ?_
      refine fs_iret E hr hlk hP hS dX7_prove_41 ?_
      rw [nI_cl (show p0 < 1000000 by omega)]
      refine ⟨?_, OGc_t ⟨hrx0, c_19⟩ (OGx.at1 p_35.2.1 p_35.2.2.1), (show fSame 0 239 _ _ from (fSame.tr2 (fSame.tr2 (fSame.tr2 fSame.rf p_26.2 (by omega) (by omega)) sm_8 (by omega) (by omega)) p_35.2.2.2 (by omega) (by omega)))⟩
      rw [if_pos hrx0, if_pos c_19]
    · rw [fz_eqN (by omega)] at c_19
      refine lv_bipush (v := (-5)) hx hb dX7_prove_22 (by decide) ?_
      refine fs_iret E hr hlk hP hS dX7_prove_24 ?_
      rw [nI_cl (show p0 < 1000000 by omega)]
      refine ⟨?_, OGc_f (fun z => c_19 z.2) hO, fSame.rf⟩
      rw [if_pos hrx0, if_neg c_19]
  · refine fs_vv (y := .null) hr5 ?_
    refine lv_astore_nN (lv' := [(3, .null), (0, .ref (fa g 0)), (1, .int x), (2, .int (bI (so = true)))]) hx hb dX7_prove_8 rfl hl (by decide) rfl (fun ls hl => ?_)
    refine lv_aload_nN hx hb dX7_prove_9 rfl (lv_at hl 0 rfl) ?_
    refine lv_ifnonnullN hx hb dX7_prove_10 ?_
    refine lv_iconst (v := (-1)) hx hb dX7_prove_13 (by decide) ?_
    refine fs_iret E hr hlk hP hS dX7_prove_14 ?_
    refine ⟨?_, OGc_f (fun z => by have z1 := z.1.1; have z2 := z.1.2; omega) hO, fSame.rf⟩
    rw [if_neg (fun z => by have z1 := z.1; have z2 := z.2; omega)]

set_option maxRecDepth 100000 in
set_option maxHeartbeats 4000000 in
theorem c_X7_doubt (l : Launch) (g : fG) (N : Nat) (ct : Nat → va_E) (σ : Nat → Int32) (k : Nat) (hs : Nat → Nat → Int32) (u1 : Bool) (s1 : Nat → Int32) (u2 : Bool) (s2 : Nat → Int32) (t : Nat → Nat) (len : Nat) (hN : 239 ≤ N) (hO : OGAt g ct σ k hs u1 s1 u2 s2 t len) (x : Int32) : Met l yX7_doubt (wsU yX7_doubt cX7_doubt 3 (some .int)) rX7_doubt (fPre g N ct [.ref (fa g 0), .int x]) (fQi g N (fun r ct1 => r = (if hrx σ x then (if ¬ rk σ x.toNatClampNeg 4 = 0 then nI (Wn (upd σ (25 + 5 * x.toNatClampNeg) (nI (0)))) else -5) else -1) ∧ OGc g ct1 (hrx σ x ∧ ¬ rk σ x.toNatClampNeg 4 = 0) (upd σ (25 + 5 * x.toNatClampNeg) (nI (0))) σ k hs u1 s1 u2 s2 t len ∧ fSame 0 239 ct ct1)) 0 0 (fB g) := by
  refine fs_start (own := RX7) (lv0 := [(0, .ref (fa g 0)), (1, .int x)]) (by decide) rfl (Nat.le_of_ble_eq_true rfl) rfl ?_
  intro p e s m args below meth c ls E hr hlk hnm hP hl hS
  have hx := E.1.1
  have hb := E.1.2.1
  obtain ⟨sv, hO1, hsv⟩ := id hO
  obtain ⟨o_1x, o_1H, o_1G, o_1Y, o_11, o_12, o_1P, o_1V⟩ := id (hO1)
  have o_1n3 := o_1G.n3
  have o_1n6 := o_1G.n6
  have o_1k := o_1G.k
  obtain ⟨o_1h0, ⟨o_1fl, o_1hl, o_1lw⟩, ⟨o_1fs, o_1hs, o_1sw⟩, ⟨o_1fg, o_1hg, o_1gw⟩, ⟨o_1fr, o_1hr, o_1rw⟩, o_1ru⟩ := id o_1H
  obtain ⟨o_1n, o_1nl, o_1y0, o_1k6, -, -, -⟩ := id o_1Y
  obtain ⟨⟨o_1ws, o_1mp, o_1mw, o_1v0⟩, -⟩ := id o_1V
  have o_1p0 := o_1P.1
  have o_1p60 := o_1P.2.2.1
  have o_1a0 := o_11.1
  have o_1b0 := o_12.1
  refine lv_aload_n hx hb dX7_doubt_0 rfl (lv_at hl 0 rfl) ?_
  refine fs_get E hP (k := 0) (v := .ref (fa g 1)) 0 fc7 o_1x (by omega) (by decide) (wm wl_1 (i := 13) rfl) rfl dX7_doubt_1 ?_
  refine lv_iload_n hx hb dX7_doubt_4 rfl (lv_at hl 1 rfl) ?_
  refine fs_pr (va_runV (As := [.int x]) (rest := []) E.1 (c_X1_rumourAt l g N ct 1 (nT σ) _ _ o_1fr x (by omega) (by omega) o_1h0 o_1hr o_1rw) (lk_RX7_118 E.1.2.2.2.2 ⟨Nat.le_of_ble_eq_true rfl, Nat.le_of_ble_eq_true rfl⟩) (fpreV E hP hS fc1 o_1h0 (by omega)) rfl rfl hl.1 rfl (lv_room (Nat.le_of_ble_eq_true rfl)) dX7_doubt_5 ⟨Nat.zero_le _, Nat.zero_le _⟩) hS (fun r_5 locs p_5 hS => ?_)
  rcases p_5 with ⟨p0, hp0, rfl, hr5⟩ | ⟨hout, hr5⟩
  · refine fs_vv (y := .ref (fa g (6 + p0))) hr5 ?_
    have u_2st := (o_1G.r hp0).2.2.2
    obtain ⟨_, _, _, _, _, u_2, u_2e⟩ := o_1ru p0 (by omega)
    obtain ⟨rfl, rfl, rfl, rfl, rfl⟩ := u_2e hp0
    refine lv_astore_n (lv' := [(2, .ref (fa g (6 + p0))), (0, .ref (fa g 0)), (1, .int (nI p0))]) hx hb dX7_doubt_8 rfl hl (by decide) rfl (fun ls hl => ?_)
    refine lv_aload_n hx hb dX7_doubt_9 rfl (lv_at hl 0 rfl) ?_
    refine lv_ifnonnull (tgt := 15) hx hb dX7_doubt_10 (by decide) ?_
    have hrx0 : hrx σ (nI p0) := ⟨by rw [nI_toInt (by omega)]; omega, by rw [nI_toInt (by omega)]; omega⟩
    refine lv_aload_n hx hb dX7_doubt_15 rfl (lv_at hl 0 rfl) ?_
    refine fs_getN E hP (k := (6 + p0)) (v := .int (nI (rk σ p0 4))) 4 fc3 u_2 (by omega) (by decide) (j := 5) rfl rfl dX7_doubt_16 ?_
    refine lv_if_ne (tgt := 25) hx hb dX7_doubt_19 (by decide) (fun c_19 => ?_) (fun c_19 => ?_)
    · rw [fz_eqN (by omega)] at c_19
      refine lv_aload_n hx hb dX7_doubt_25 rfl (lv_at hl 1 rfl) ?_
      refine fs_v (va_runV (As := []) (rest := []) E.1 (c_X7_beginChange l g N ct sv σ k hs u1 s1 u2 s2 t len (by omega) hO1) (lk_RX7_55 E.1.2.2.2.2 ⟨Nat.le_of_ble_eq_true rfl, Nat.le_of_ble_eq_true rfl⟩) (fpreV E hP hS fc7 o_1x (by omega)) rfl rfl hl.1 rfl (lv_room (Nat.le_of_ble_eq_true rfl)) dX7_doubt_26 ⟨Nat.zero_le _, Nat.zero_le _⟩) hS (fun ct_3 H locs p_26 hP hS => ?_)
      obtain ⟨o_4x, o_4H, o_4G, o_4Y, o_41, o_42, o_4P, o_4V⟩ := id (p_26.1)
      have o_4n3 := o_4G.n3
      have o_4n6 := o_4G.n6
      have o_4k := o_4G.k
      obtain ⟨o_4h0, ⟨o_4fl, o_4hl, o_4lw⟩, ⟨o_4fs, o_4hs, o_4sw⟩, ⟨o_4fg, o_4hg, o_4gw⟩, ⟨o_4fr, o_4hr, o_4rw⟩, o_4ru⟩ := id o_4H
      obtain ⟨o_4n, o_4nl, o_4y0, o_4k6, -, -, -⟩ := id o_4Y
      obtain ⟨⟨o_4ws, o_4mp, o_4mw, o_4v0⟩, -⟩ := id o_4V
      have o_4p0 := o_4P.1
      have o_4p60 := o_4P.2.2.1
      have o_4a0 := o_41.1
      have o_4b0 := o_42.1
      have u_5st := (o_4G.r hp0).2.2.2
      obtain ⟨_, _, _, _, _, u_5, u_5e⟩ := o_4ru p0 (by omega)
      obtain ⟨rfl, rfl, rfl, rfl, rfl⟩ := u_5e hp0
      refine lv_aload_n hx hb dX7_doubt_29 rfl (lv_at hl 0 rfl) ?_
      refine lv_iconst (v := (nI 0)) hx hb dX7_doubt_30 (by decide) ?_
      refine fs_putN E hP hS (k := (6 + p0)) 4 fc3 u_5 (by omega) (by decide) (j := 5) rfl rfl rfl rfl rfl (Nat.le_of_ble_eq_true rfl) dX7_doubt_31 (fun ct_6 H locs q_7 hP hS => ?_)
      have h_8 : ct_6 0 = .inr (7, [.ref (fa g 1), .ref (fa g 26), .ref (fa g 178), .ref (fa g 204), .ref (fa g 230), .ref (fa g 232), .int (nI 0)]) := by rw [q_7]; exact (fu_ne (by omega)).trans o_4x
      have h_9 : ct_6 1 = .inr (1, [.int (nI (nB σ)), .int (σ 2), .int (nI (nT σ)), .ref (fa g 2), .ref (fa g 3), .ref (fa g 4), .ref (fa g 5)]) := by rw [q_7]; exact (fu_ne (by omega)).trans o_4h0
      have h_10 : ct_6 2 = .inl (fcI g, 6, .inl o_4fl) := by rw [q_7]; exact (fu_ne (by omega)).trans o_4hl
      have h_11 : ct_6 3 = .inl (fcI g, 6, .inl o_4fs) := by rw [q_7]; exact (fu_ne (by omega)).trans o_4hs
      have h_12 : ct_6 4 = .inl (fcI g, 6, .inl o_4fg) := by rw [q_7]; exact (fu_ne (by omega)).trans o_4hg
      have h_13 : ct_6 5 = .inl (fcR g, 20, .inr (.inr (.inr (.inr o_4fr)))) := by rw [q_7]; exact (fu_ne (by omega)).trans o_4hr
      have h_14 : ct_6 26 = .inr (0, [.ref (fa g 27), .int (nI (min (k + 1) 6)), .int (nI o_4n)]) := by rw [q_7]; exact (fu_ne (by omega)).trans o_4y0
      have h_15 : ct_6 178 = .inr (4, [.ref (fa g 179), .int (if u1 = true then nI 1 else nI 0)]) := by rw [q_7]; exact (fu_ne (by omega)).trans o_4a0
      have h_16 : ct_6 204 = .inr (4, [.ref (fa g 205), .int (if u2 = true then nI 1 else nI 0)]) := by rw [q_7]; exact (fu_ne (by omega)).trans o_4b0
      have h_17 : ct_6 230 = .inr (2, [.ref (fa g 231), .int (nI len)]) := by rw [q_7]; exact (fu_ne (by omega)).trans o_4p0
      have h_18 : ct_6 232 = .inr (5, [.ref (fa g 233), .int o_4ws, .int o_4mp, .int o_4mw, .ref (fa g 235), .ref (fa g 236), .ref (fa g 237), .ref (fa g 238)]) := by rw [q_7]; exact (fu_ne (by omega)).trans o_4v0
      have h_19 : ct_6 (6 + p0) = .inr (3, [.int (nI (rk σ p0 0)), .int (nI (rk σ p0 1)), .int (nI (rk σ p0 2)), .int (nI (rk σ p0 3)), .int (nI 0)]) := by rw [q_7]; exact fu_eq _ _ _
      have sm_21 : fSame 1 26 ct_3 ct_6 := by rw [q_7]; exact fSame.up (by omega) (by omega)
      have og_20 := OGx.house p_26.1 (HouseAt.how o_4H hp0 (by omega) (show 0 < 2147483648 by omega) ⟨rfl, rfl, rfl, rfl⟩ q_7) (Good_how o_4G (by omega)) sm_21
      obtain ⟨o_22x, o_22H, o_22G, o_22Y, o_221, o_222, o_22P, o_22V⟩ := id (og_20)
      have o_22n3 := o_22G.n3
      have o_22n6 := o_22G.n6
      have o_22k := o_22G.k
      obtain ⟨o_22h0, ⟨o_22fl, o_22hl, o_22lw⟩, ⟨o_22fs, o_22hs, o_22sw⟩, ⟨o_22fg, o_22hg, o_22gw⟩, ⟨o_22fr, o_22hr, o_22rw⟩, o_22ru⟩ := id o_22H
      obtain ⟨o_22n, o_22nl, o_22y0, o_22k6, -, -, -⟩ := id o_22Y
      obtain ⟨⟨o_22ws, o_22mp, o_22mw, o_22v0⟩, -⟩ := id o_22V
      have o_22p0 := o_22P.1
      have o_22p60 := o_22P.2.2.1
      have o_22a0 := o_221.1
      have o_22b0 := o_222.1
      refine lv_aload_n hx hb dX7_doubt_34 rfl (lv_at hl 1 rfl) ?_
      refine fs_r (va_runV (As := []) (rest := []) E.1 (c_X7_surveyNow l g N ct_6 (upd σ (25 + 5 * p0) (nI 0)) (min (k + 1) 6) (recH σ hs) u1 s1 u2 s2 t len (by omega) (OGx.at0 og_20)) (lk_RX7_131 E.1.2.2.2.2 ⟨Nat.le_of_ble_eq_true rfl, Nat.le_of_ble_eq_true rfl⟩) (fpreV E hP hS fc7 o_22x (by omega)) rfl rfl hl.1 rfl (lv_room (Nat.le_of_ble_eq_true rfl)) dX7_doubt_35 ⟨Nat.zero_le _, Nat.zero_le _⟩) hS (fun r_35 ct_23 H locs p_35 hP hS => ?_)
      refine fs_vv (y := .ref (fa g 232)) p_35.1 ?_
      obtain ⟨o_24x, o_24H, o_24G, o_24Y, o_241, o_242, o_24P, o_24V⟩ := id (p_35.2.1)
      have o_24n3 := o_24G.n3
      have o_24n6 := o_24G.n6
      have o_24k := o_24G.k
      obtain ⟨o_24h0, ⟨o_24fl, o_24hl, o_24lw⟩, ⟨o_24fs, o_24hs, o_24sw⟩, ⟨o_24fg, o_24hg, o_24gw⟩, ⟨o_24fr, o_24hr, o_24rw⟩, o_24ru⟩ := id o_24H
      obtain ⟨o_24n, o_24nl, o_24y0, o_24k6, -, -, -⟩ := id o_24Y
      obtain ⟨⟨o_24mp, o_24mw, o_24v0⟩, ⟨o_24fv, o_24v3, o_24vw⟩, ⟨o_24fo, o_24v4, o_24ow⟩, ⟨o_24fb, o_24v5, o_24bw⟩⟩ := id (p_35.2.2.1)
      have o_24p0 := o_24P.1
      have o_24p60 := o_24P.2.2.1
      have o_24a0 := o_241.1
      have o_24b0 := o_242.1
      refine fs_getN E hP (k := 232) (v := .int (nI (Wn (upd σ (25 + 5 * p0) (nI 0))))) 1 fc5 o_24v0 (by omega) (by decide) (j := 18) rfl rfl dX7_doubt_38 ?_
      refine fs_iret E hr hlk hP hS dX7_doubt_41 ?_
      rw [nI_cl (show p0 < 1000000 by omega)]
      refine ⟨?_, OGc_t ⟨hrx0, c_19⟩ (OGx.at1 p_35.2.1 p_35.2.2.1), (show fSame 0 239 _ _ from (fSame.tr2 (fSame.tr2 (fSame.tr2 fSame.rf p_26.2 (by omega) (by omega)) sm_21 (by omega) (by omega)) p_35.2.2.2 (by omega) (by omega)))⟩
      rw [if_pos hrx0, if_pos c_19]
    · rw [fz_eqN (by omega)] at c_19
      refine lv_bipush (v := (-5)) hx hb dX7_doubt_22 (by decide) ?_
      refine fs_iret E hr hlk hP hS dX7_doubt_24 ?_
      rw [nI_cl (show p0 < 1000000 by omega)]
      refine ⟨?_, OGc_f (fun z => z.2 c_19) hO, fSame.rf⟩
      rw [if_pos hrx0, if_neg (fun z => z c_19)]
  · refine fs_vv (y := .null) hr5 ?_
    refine lv_astore_nN (lv' := [(2, .null), (0, .ref (fa g 0)), (1, .int x)]) hx hb dX7_doubt_8 rfl hl (by decide) rfl (fun ls hl => ?_)
    refine lv_aload_nN hx hb dX7_doubt_9 rfl (lv_at hl 0 rfl) ?_
    refine lv_ifnonnullN hx hb dX7_doubt_10 ?_
    refine lv_iconst (v := (-1)) hx hb dX7_doubt_13 (by decide) ?_
    refine fs_iret E hr hlk hP hS dX7_doubt_14 ?_
    refine ⟨?_, OGc_f (fun z => by have z1 := z.1.1; have z2 := z.1.2; omega) hO, fSame.rf⟩
    rw [if_neg (fun z => by have z1 := z.1; have z2 := z.2; omega)]

set_option maxRecDepth 100000 in
set_option maxHeartbeats 4000000 in
theorem c_X7_reveal (l : Launch) (g : fG) (N : Nat) (ct : Nat → va_E) (σ : Nat → Int32) (k : Nat) (hs : Nat → Nat → Int32) (u1 : Bool) (s1 : Nat → Int32) (u2 : Bool) (s2 : Nat → Int32) (t : Nat → Nat) (len : Nat) (hN : 239 ≤ N) (hO : OGAt g ct σ k hs u1 s1 u2 s2 t len) : Met l yX7_reveal (wsU yX7_reveal cX7_reveal 1 (some .int)) rX7_reveal (fPre g N ct [.ref (fa g 0)]) (fQi g N (fun r ct1 => r = nI (cN (fun r => decide (rk σ r 4 = 0)) (nT σ)) ∧ OGAt g ct1 (sRev σ (nT σ)) (min (k + 1) 6) (recH σ hs) u1 s1 u2 s2 t len ∧ fSame 0 239 ct ct1)) 0 0 (fB g) := by
  refine fs_start (own := RX7) (lv0 := [(0, .ref (fa g 0))]) (by decide) rfl (Nat.le_of_ble_eq_true rfl) rfl ?_
  intro p e s m args below meth c ls E hr hlk hnm hP hl hS
  have hx := E.1.1
  have hb := E.1.2.1
  obtain ⟨sv, hO1, hsv⟩ := id hO
  obtain ⟨o_1x, o_1H, o_1G, o_1Y, o_11, o_12, o_1P, o_1V⟩ := id (hO1)
  have o_1n3 := o_1G.n3
  have o_1n6 := o_1G.n6
  have o_1k := o_1G.k
  obtain ⟨o_1h0, ⟨o_1fl, o_1hl, o_1lw⟩, ⟨o_1fs, o_1hs, o_1sw⟩, ⟨o_1fg, o_1hg, o_1gw⟩, ⟨o_1fr, o_1hr, o_1rw⟩, o_1ru⟩ := id o_1H
  obtain ⟨o_1n, o_1nl, o_1y0, o_1k6, -, -, -⟩ := id o_1Y
  obtain ⟨⟨o_1ws, o_1mp, o_1mw, o_1v0⟩, -⟩ := id o_1V
  have o_1p0 := o_1P.1
  have o_1p60 := o_1P.2.2.1
  have o_1a0 := o_11.1
  have o_1b0 := o_12.1
  refine lv_aload_n hx hb dX7_reveal_0 rfl (lv_at hl 0 rfl) ?_
  refine fs_v (va_runV (As := []) (rest := []) E.1 (c_X7_beginChange l g N ct sv σ k hs u1 s1 u2 s2 t len (by omega) hO1) (lk_RX7_55 E.1.2.2.2.2 ⟨Nat.le_of_ble_eq_true rfl, Nat.le_of_ble_eq_true rfl⟩) (fpreV E hP hS fc7 o_1x (by omega)) rfl rfl hl.1 rfl (lv_room (Nat.le_of_ble_eq_true rfl)) dX7_reveal_1 ⟨Nat.zero_le _, Nat.zero_le _⟩) hS (fun ct_2 H locs p_1 hP hS => ?_)
  obtain ⟨o_3x, o_3H, o_3G, o_3Y, o_31, o_32, o_3P, o_3V⟩ := id (p_1.1)
  have o_3n3 := o_3G.n3
  have o_3n6 := o_3G.n6
  have o_3k := o_3G.k
  obtain ⟨o_3h0, ⟨o_3fl, o_3hl, o_3lw⟩, ⟨o_3fs, o_3hs, o_3sw⟩, ⟨o_3fg, o_3hg, o_3gw⟩, ⟨o_3fr, o_3hr, o_3rw⟩, o_3ru⟩ := id o_3H
  obtain ⟨o_3n, o_3nl, o_3y0, o_3k6, -, -, -⟩ := id o_3Y
  obtain ⟨⟨o_3ws, o_3mp, o_3mw, o_3v0⟩, -⟩ := id o_3V
  have o_3p0 := o_3P.1
  have o_3p60 := o_3P.2.2.1
  have o_3a0 := o_31.1
  have o_3b0 := o_32.1
  refine lv_aload_n hx hb dX7_reveal_4 rfl (lv_at hl 0 rfl) ?_
  refine fs_get E hP (k := 0) (v := .ref (fa g 1)) 0 fc7 o_3x (by omega) (by decide) (wm wl_1 (i := 13) rfl) rfl dX7_reveal_5 ?_
  refine fs_i (va_runV (As := []) (rest := []) E.1 (c_X1_revealOpen l g N ct_2 1 σ (by omega) o_3G o_3H) (lk_RX7_138 E.1.2.2.2.2 ⟨Nat.le_of_ble_eq_true rfl, Nat.le_of_ble_eq_true rfl⟩) (fpreV E hP hS fc1 o_3h0 (by omega)) rfl rfl hl.1 rfl (lv_room (Nat.le_of_ble_eq_true rfl)) dX7_reveal_8 ⟨Nat.zero_le _, Nat.zero_le _⟩) hS (fun r_8 ct_4 H locs p_8 hP hS => ?_)
  have sm_6 : fSame 1 26 ct_2 ct_4 := p_8.2.2
  have og_5 := OGx.house p_1.1 (p_8.2.1) (Good_rev o_3G _) sm_6
  obtain ⟨o_7x, o_7H, o_7G, o_7Y, o_71, o_72, o_7P, o_7V⟩ := id (og_5)
  have o_7n3 := o_7G.n3
  have o_7n6 := o_7G.n6
  have o_7k := o_7G.k
  obtain ⟨o_7h0, ⟨o_7fl, o_7hl, o_7lw⟩, ⟨o_7fs, o_7hs, o_7sw⟩, ⟨o_7fg, o_7hg, o_7gw⟩, ⟨o_7fr, o_7hr, o_7rw⟩, o_7ru⟩ := id o_7H
  obtain ⟨o_7n, o_7nl, o_7y0, o_7k6, -, -, -⟩ := id o_7Y
  obtain ⟨⟨o_7ws, o_7mp, o_7mw, o_7v0⟩, -⟩ := id o_7V
  have o_7p0 := o_7P.1
  have o_7p60 := o_7P.2.2.1
  have o_7a0 := o_71.1
  have o_7b0 := o_72.1
  refine fs_iret E hr hlk hP hS dX7_reveal_11 ?_
  exact ⟨p_8.1, (OGx.at0 og_5), (show fSame 0 239 _ _ from (fSame.tr2 (fSame.tr2 fSame.rf p_1.2 (by omega) (by omega)) sm_6 (by omega) (by omega)))⟩

set_option maxRecDepth 100000 in
set_option maxHeartbeats 4000000 in
theorem c_X7_endAct (l : Launch) (g : fG) (N : Nat) (ct : Nat → va_E) (σ : Nat → Int32) (k : Nat) (hs : Nat → Nat → Int32) (u1 : Bool) (s1 : Nat → Int32) (u2 : Bool) (s2 : Nat → Int32) (t : Nat → Nat) (len : Nat) (hN : 239 ≤ N) (hO : OGAt g ct σ k hs u1 s1 u2 s2 t len) : Met l yX7_endAct (wsU yX7_endAct cX7_endAct 1 (some .int)) rX7_endAct (fPre g N ct [.ref (fa g 0)]) (fQi g N (fun r ct1 => r = sEnd σ 2 ∧ OGAt g ct1 (sEnd σ) (min (k + 1) 6) (recH σ hs) u1 s1 u2 s2 t len ∧ fSame 0 239 ct ct1)) 0 0 (fB g) := by
  refine fs_start (own := RX7) (lv0 := [(0, .ref (fa g 0))]) (by decide) rfl (Nat.le_of_ble_eq_true rfl) rfl ?_
  intro p e s m args below meth c ls E hr hlk hnm hP hl hS
  have hx := E.1.1
  have hb := E.1.2.1
  obtain ⟨sv, hO1, hsv⟩ := id hO
  obtain ⟨o_1x, o_1H, o_1G, o_1Y, o_11, o_12, o_1P, o_1V⟩ := id (hO1)
  have o_1n3 := o_1G.n3
  have o_1n6 := o_1G.n6
  have o_1k := o_1G.k
  obtain ⟨o_1h0, ⟨o_1fl, o_1hl, o_1lw⟩, ⟨o_1fs, o_1hs, o_1sw⟩, ⟨o_1fg, o_1hg, o_1gw⟩, ⟨o_1fr, o_1hr, o_1rw⟩, o_1ru⟩ := id o_1H
  obtain ⟨o_1n, o_1nl, o_1y0, o_1k6, -, -, -⟩ := id o_1Y
  obtain ⟨⟨o_1ws, o_1mp, o_1mw, o_1v0⟩, -⟩ := id o_1V
  have o_1p0 := o_1P.1
  have o_1p60 := o_1P.2.2.1
  have o_1a0 := o_11.1
  have o_1b0 := o_12.1
  refine lv_aload_n hx hb dX7_endAct_0 rfl (lv_at hl 0 rfl) ?_
  refine fs_v (va_runV (As := []) (rest := []) E.1 (c_X7_beginChange l g N ct sv σ k hs u1 s1 u2 s2 t len (by omega) hO1) (lk_RX7_55 E.1.2.2.2.2 ⟨Nat.le_of_ble_eq_true rfl, Nat.le_of_ble_eq_true rfl⟩) (fpreV E hP hS fc7 o_1x (by omega)) rfl rfl hl.1 rfl (lv_room (Nat.le_of_ble_eq_true rfl)) dX7_endAct_1 ⟨Nat.zero_le _, Nat.zero_le _⟩) hS (fun ct_2 H locs p_1 hP hS => ?_)
  obtain ⟨o_3x, o_3H, o_3G, o_3Y, o_31, o_32, o_3P, o_3V⟩ := id (p_1.1)
  have o_3n3 := o_3G.n3
  have o_3n6 := o_3G.n6
  have o_3k := o_3G.k
  obtain ⟨o_3h0, ⟨o_3fl, o_3hl, o_3lw⟩, ⟨o_3fs, o_3hs, o_3sw⟩, ⟨o_3fg, o_3hg, o_3gw⟩, ⟨o_3fr, o_3hr, o_3rw⟩, o_3ru⟩ := id o_3H
  obtain ⟨o_3n, o_3nl, o_3y0, o_3k6, -, -, -⟩ := id o_3Y
  obtain ⟨⟨o_3ws, o_3mp, o_3mw, o_3v0⟩, -⟩ := id o_3V
  have o_3p0 := o_3P.1
  have o_3p60 := o_3P.2.2.1
  have o_3a0 := o_31.1
  have o_3b0 := o_32.1
  refine lv_aload_n hx hb dX7_endAct_4 rfl (lv_at hl 0 rfl) ?_
  refine fs_get E hP (k := 0) (v := .ref (fa g 1)) 0 fc7 o_3x (by omega) (by decide) (wm wl_1 (i := 13) rfl) rfl dX7_endAct_5 ?_
  refine fs_v (va_runV (As := []) (rest := []) E.1 (c_X1_finishAct l g N ct_2 1 σ (by omega) o_3G o_3H) (lk_RX7_154 E.1.2.2.2.2 ⟨Nat.le_of_ble_eq_true rfl, Nat.le_of_ble_eq_true rfl⟩) (fpreV E hP hS fc1 o_3h0 (by omega)) rfl rfl hl.1 rfl (lv_room (Nat.le_of_ble_eq_true rfl)) dX7_endAct_8 ⟨Nat.zero_le _, Nat.zero_le _⟩) hS (fun ct_4 H locs p_8 hP hS => ?_)
  have sm_6 : fSame 1 26 ct_2 ct_4 := p_8.2
  have og_5 := OGx.house p_1.1 (p_8.1) (Good_end o_3G) sm_6
  obtain ⟨o_7x, o_7H, o_7G, o_7Y, o_71, o_72, o_7P, o_7V⟩ := id (og_5)
  have o_7n3 := o_7G.n3
  have o_7n6 := o_7G.n6
  have o_7k := o_7G.k
  obtain ⟨o_7h0, ⟨o_7fl, o_7hl, o_7lw⟩, ⟨o_7fs, o_7hs, o_7sw⟩, ⟨o_7fg, o_7hg, o_7gw⟩, ⟨o_7fr, o_7hr, o_7rw⟩, o_7ru⟩ := id o_7H
  obtain ⟨o_7n, o_7nl, o_7y0, o_7k6, -, -, -⟩ := id o_7Y
  obtain ⟨⟨o_7ws, o_7mp, o_7mw, o_7v0⟩, -⟩ := id o_7V
  have o_7p0 := o_7P.1
  have o_7p60 := o_7P.2.2.1
  have o_7a0 := o_71.1
  have o_7b0 := o_72.1
  refine lv_aload_n hx hb dX7_endAct_11 rfl (lv_at hl 0 rfl) ?_
  refine fs_get E hP (k := 0) (v := .ref (fa g 1)) 0 fc7 o_7x (by omega) (by decide) (wm wl_1 (i := 13) rfl) rfl dX7_endAct_12 ?_
  refine fs_getN E hP (k := 1) (v := .int ((sEnd σ) 2)) 1 fc1 o_7h0 (by omega) (by decide) (j := 9) rfl rfl dX7_endAct_15 ?_
  refine fs_iret E hr hlk hP hS dX7_endAct_18 ?_
  exact ⟨rfl, (OGx.at0 og_5), (show fSame 0 239 _ _ from (fSame.tr2 (fSame.tr2 fSame.rf p_1.2 (by omega) (by omega)) sm_6 (by omega) (by omega)))⟩
