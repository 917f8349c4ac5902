/-! all rumours of a pad -/
def tlR (σ : Nat → Int32) (t : Nat → Nat) : Nat → Nat → Int32
  | 0 => σ
  | j + 1 => sTell (tlR σ t j) (pdT t j) (pdK t j) (pdA t j) (pdB t j)
theorem sux_nI {n kd a b : Nat} (h1 : kd < 1000) (h2 : a < 1000) (h3 : b < 1000) : sux n (nI kd) (nI a) (nI b) ↔ okk n kd a b := by
  unfold sux okk
  rw [nI_toInt (by omega), nI_toInt (by omega), nI_toInt (by omega)]
  constructor
  · rintro ⟨a1, a2, a3⟩
    exact ⟨by omega, by omega, by omega, by omega⟩
  · rintro ⟨a1, a2, a3, a4⟩
    refine ⟨by omega, by omega, ?_⟩
    by_cases z : kd = 4
    · have := a3 z; exact Or.inl (by omega)
    · have := a4 z; exact Or.inr ⟨by omega, by omega, by omega⟩
def padK (σ : Nat → Int32) (t : Nat → Nat) (m : Nat) : Prop := ∀ j, j < m → pdT t j < nB σ ∧ okk (nB σ) (pdK t j) (pdA t j) (pdB t j)
theorem tlR_ok {σ : Nat → Int32} {t : Nat → Nat} (hG : Good σ) {m : Nat} (hk : nT σ + m ≤ 20) (h : padK σ t m) : ∀ j, j ≤ m → Good (tlR σ t j) ∧ nB (tlR σ t j) = nB σ ∧ nT (tlR σ t j) = nT σ + j := by
  intro j
  induction j with
  | zero => exact fun _ => ⟨hG, rfl, rfl⟩
  | succ j ih =>
    intro hj
    obtain ⟨a, b, c⟩ := ih (by omega)
    obtain ⟨d, e⟩ := h j (by omega)
    exact ⟨Good_tell a (by omega) (by rw [b]; exact d) (by rw [b]; exact e), nB_tell.trans b, (nT_tell (by omega)).trans (by omega)⟩
theorem pd_lt {t : Nat → Nat} {len j : Nat} (hl : len % 6 = 5) (h : ∀ i, i < len → csa t i = true) (hj : j < (len + 1) / 6) : pdT t j < 10 ∧ pdK t j < 10 ∧ pdA t j < 10 ∧ pdB t j < 10 := by
  have := csa_at hl h hj
  unfold pdT pdK pdA pdB; omega

set_option maxRecDepth 100000 in
set_option maxHeartbeats 4000000 in
theorem c_X7_allTellersAreThere (l : Launch) (g : fG) (N : Nat) (ct : Nat → va_E) (σ : Nat → Int32) (k : Nat) (hs : Nat → Nat → Int32) (u1 : Bool) (s1 : Nat → Int32) (u2 : Bool) (s2 : Nat → Int32) (t : Nat → Nat) (len : Nat) (hN : 239 ≤ N) (hO : OGAt g ct σ k hs u1 s1 u2 s2 t len) (hl5 : len % 6 = 5) (hcs : ∀ i, i < len → csa t i = true) : Met l yX7_allTellersAreThere (wsU yX7_allTellersAreThere cX7_allTellersAreThere 2 (some .boolean)) rX7_allTellersAreThere (fPre g N ct [.ref (fa g 0)]) (fQpi (fun r => r = bI (∀ j, j < (len + 1) / 6 → pdT t j < nB σ))) 0 0 (fB g) := by
  refine fs_start (own := RX7) (lv0 := [(0, .ref (fa g 0))]) (by decide) rfl (Nat.le_of_ble_eq_true rfl) rfl ?_
  intro p e s m args below meth c ls E hr hlk hnm hP hl hS
  have hx := E.1.1
  have hb := E.1.2.1
  obtain ⟨sv, hO1, hsv⟩ := id hO
  obtain ⟨o_1x, o_1H, o_1G, o_1Y, o_11, o_12, o_1P, o_1V⟩ := id (hO1)
  have o_1n3 := o_1G.n3
  have o_1n6 := o_1G.n6
  have o_1k := o_1G.k
  obtain ⟨o_1h0, ⟨o_1fl, o_1hl, o_1lw⟩, ⟨o_1fs, o_1hs, o_1sw⟩, ⟨o_1fg, o_1hg, o_1gw⟩, ⟨o_1fr, o_1hr, o_1rw⟩, o_1ru⟩ := id o_1H
  obtain ⟨o_1n, o_1nl, o_1y0, o_1k6, -, -, -⟩ := id o_1Y
  obtain ⟨⟨o_1ws, o_1mp, o_1mw, o_1v0⟩, -⟩ := id o_1V
  have o_1p0 := o_1P.1
  have o_1p60 := o_1P.2.2.1
  have o_1a0 := o_11.1
  have o_1b0 := o_12.1
  refine lv_iconst (v := (nI 0)) hx hb dX7_allTellersAreThere_0 (by decide) ?_
  refine lv_istore_n (lv' := [(1, .int (nI 0)), (0, .ref (fa g 0))]) hx hb dX7_allTellersAreThere_1 rfl hl (by decide) rfl (fun ls hl => ?_)
  refine fs_indP (g := g) (St := Nat) (fun (i : Nat) (ls : Array Slot) => lv_has ls 2 [(0, .ref (fa g 0)), (1, .int (nI i))] ∧ i ≤ ((len + 1) / 6) ∧ ∀ j, j < i → pdT t j < nB σ) (fun (i : Nat) => ((len + 1) / 6) - i) ?_ 0 ls _ ⟨lv_sub hl [1, 0] rfl, Nat.zero_le _, fun j hj => absurd hj (by omega)⟩ hS
  clear hl hS
  intro st ls locs hI hS ih
  obtain ⟨i, rfl⟩ : ∃ z, z = st := ⟨_, rfl⟩
  obtain ⟨hl, hI⟩ := hI
  have hI1 := hI.1
  refine lv_iload_n hx hb dX7_allTellersAreThere_2 rfl (lv_at hl 1 rfl) ?_
  refine lv_aload_n hx hb dX7_allTellersAreThere_3 rfl (lv_at hl 0 rfl) ?_
  refine fs_get E hP (k := 0) (v := .ref (fa g 230)) 4 fc7 o_1x (by omega) (by decide) (wm wl_2 (i := 5) rfl) rfl dX7_allTellersAreThere_4 ?_
  refine fs_pi (va_runV (As := []) (rest := [.int (nI i)]) E.1 (c_X2_rumours l g N ct 230 t len (by omega) o_1P) (lk_RX7_99 E.1.2.2.2.2 ⟨Nat.le_of_ble_eq_true rfl, Nat.le_of_ble_eq_true rfl⟩) (fpreV E hP hS fc2 o_1p0 (by omega)) rfl rfl hl.1 rfl (lv_room (Nat.le_of_ble_eq_true rfl)) dX7_allTellersAreThere_7 ⟨Nat.zero_le _, Nat.zero_le _⟩) hS (fun r_7 locs p_7 hS => ?_)
  refine fs_vi (y := (nI ((len + 1) / 6))) p_7 ?_
  refine lv_icmp_ge (tgt := 39) hx hb dX7_allTellersAreThere_10 (by decide) (fun c_10 => ?_) (fun c_10 => ?_)
  · rw [nI_leI (by omega) (by omega)] at c_10
    refine lv_iconst (v := (nI 1)) hx hb dX7_allTellersAreThere_39 (by decide) ?_
    refine fs_pzret E hr rfl hlk hS dX7_allTellersAreThere_40 ?_
    exact bI_t (fun j hj => hI.2 j (by omega))
  · rw [nI_leI (by omega) (by omega)] at c_10
    have hpd := pd_lt hl5 hcs (j := i) (by omega)
    refine lv_aload_n hx hb dX7_allTellersAreThere_13 rfl (lv_at hl 0 rfl) ?_
    refine fs_get E hP (k := 0) (v := .ref (fa g 1)) 0 fc7 o_1x (by omega) (by decide) (wm wl_1 (i := 16) rfl) rfl dX7_allTellersAreThere_14 ?_
    refine lv_aload_n hx hb dX7_allTellersAreThere_17 rfl (lv_at hl 0 rfl) ?_
    refine fs_get E hP (k := 0) (v := .ref (fa g 230)) 4 fc7 o_1x (by omega) (by decide) (wm wl_2 (i := 5) rfl) rfl dX7_allTellersAreThere_18 ?_
    refine lv_iload_n hx hb dX7_allTellersAreThere_21 rfl (lv_at hl 1 rfl) ?_
    refine fs_pi (va_runV (As := [.int (nI i)]) (rest := [.ref (fa g 1)]) E.1 (c_X2_tellerOf l g N ct 230 t len i (by omega) hl5 hcs (by omega) o_1P) (lk_RX7_102 E.1.2.2.2.2 ⟨Nat.le_of_ble_eq_true rfl, Nat.le_of_ble_eq_true rfl⟩) (fpreV E hP hS fc2 o_1p0 (by omega)) rfl rfl hl.1 rfl (lv_room (Nat.le_of_ble_eq_true rfl)) dX7_allTellersAreThere_22 ⟨Nat.zero_le _, Nat.zero_le _⟩) hS (fun r_22 locs p_22 hS => ?_)
    refine fs_vi (y := (nI (pdT t i))) p_22 ?_
    refine fs_pi (va_runV (As := [.int (nI (pdT t i))]) (rest := []) E.1 (c_X1_hasBox l g N ct 1 (nB σ) (nT σ) (σ 2) 2 3 4 5 (by omega) o_1h0 (nI (pdT t i)) (by omega)) (lk_RX7_58 E.1.2.2.2.2 ⟨Nat.le_of_ble_eq_true rfl, Nat.le_of_ble_eq_true rfl⟩) (fpreV E hP hS fc1 o_1h0 (by omega)) rfl rfl hl.1 rfl (lv_room (Nat.le_of_ble_eq_true rfl)) dX7_allTellersAreThere_25 ⟨Nat.zero_le _, Nat.zero_le _⟩) hS (fun r_25 locs p_25 hS => ?_)
    refine lv_if_ne (tgt := 33) hx hb dX7_allTellersAreThere_28 (by decide) (fun c_28 => ?_) (fun c_28 => ?_)
    · rw [fb_1 p_25, nI_toInt (by omega)] at c_28
      refine lv_iinc (v := (nI (i + 1))) (lv' := [(1, .int (nI (i + 1))), (0, .ref (fa g 0))]) hx hb dX7_allTellersAreThere_33 hl (k := 1) rfl (nI_1 _) (by decide) rfl (fun ls hl => ?_)
      refine lv_goto (tgt := 2) hx hb dX7_allTellersAreThere_36 (by decide) ?_
      exact ih (i + 1) ls _ (by (try dsimp only); omega) ⟨lv_sub hl [1, 0] rfl, by omega, fun j hj => (Nat.lt_or_ge j i).elim (fun z => hI.2 j z) (fun z => by rw [show j = i by omega]; exact (by omega))⟩ hS
    · rw [fb_0 p_25, nI_toInt (by omega)] at c_28
      refine lv_iconst (v := (nI 0)) hx hb dX7_allTellersAreThere_31 (by decide) ?_
      refine fs_pzret E hr rfl hlk hS dX7_allTellersAreThere_32 ?_
      exact bI_f (fun z => by have := z i (by omega); omega)

set_option maxRecDepth 100000 in
set_option maxHeartbeats 4000000 in
theorem c_X7_allOnPadSuit (l : Launch) (g : fG) (N : Nat) (ct : Nat → va_E) (σ : Nat → Int32) (k : Nat) (hs : Nat → Nat → Int32) (u1 : Bool) (s1 : Nat → Int32) (u2 : Bool) (s2 : Nat → Int32) (t : Nat → Nat) (len : Nat) (hN : 239 ≤ N) (hO : OGAt g ct σ k hs u1 s1 u2 s2 t len) (hl5 : len % 6 = 5) (hcs : ∀ i, i < len → csa t i = true) : Met l yX7_allOnPadSuit (wsU yX7_allOnPadSuit cX7_allOnPadSuit 2 (some .boolean)) rX7_allOnPadSuit (fPre g N ct [.ref (fa g 0)]) (fQpi (fun r => r = bI (∀ j, j < (len + 1) / 6 → sux (nB σ) (nI (pdK t j)) (nI (pdA t j)) (nI (pdB t j))))) 0 0 (fB g) := by
  refine fs_start (own := RX7) (lv0 := [(0, .ref (fa g 0))]) (by decide) rfl (Nat.le_of_ble_eq_true rfl) rfl ?_
  intro p e s m args below meth c ls E hr hlk hnm hP hl hS
  have hx := E.1.1
  have hb := E.1.2.1
  obtain ⟨sv, hO1, hsv⟩ := id hO
  obtain ⟨o_1x, o_1H, o_1G, o_1Y, o_11, o_12, o_1P, o_1V⟩ := id (hO1)
  have o_1n3 := o_1G.n3
  have o_1n6 := o_1G.n6
  have o_1k := o_1G.k
  obtain ⟨o_1h0, ⟨o_1fl, o_1hl, o_1lw⟩, ⟨o_1fs, o_1hs, o_1sw⟩, ⟨o_1fg, o_1hg, o_1gw⟩, ⟨o_1fr, o_1hr, o_1rw⟩, o_1ru⟩ := id o_1H
  obtain ⟨o_1n, o_1nl, o_1y0, o_1k6, -, -, -⟩ := id o_1Y
  obtain ⟨⟨o_1ws, o_1mp, o_1mw, o_1v0⟩, -⟩ := id o_1V
  have o_1p0 := o_1P.1
  have o_1p60 := o_1P.2.2.1
  have o_1a0 := o_11.1
  have o_1b0 := o_12.1
  refine lv_iconst (v := (nI 0)) hx hb dX7_allOnPadSuit_0 (by decide) ?_
  refine lv_istore_n (lv' := [(1, .int (nI 0)), (0, .ref (fa g 0))]) hx hb dX7_allOnPadSuit_1 rfl hl (by decide) rfl (fun ls hl => ?_)
  refine fs_indP (g := g) (St := Nat) (fun (i : Nat) (ls : Array Slot) => lv_has ls 2 [(0, .ref (fa g 0)), (1, .int (nI i))] ∧ i ≤ ((len + 1) / 6) ∧ ∀ j, j < i → sux (nB σ) (nI (pdK t j)) (nI (pdA t j)) (nI (pdB t j))) (fun (i : Nat) => ((len + 1) / 6) - i) ?_ 0 ls _ ⟨lv_sub hl [1, 0] rfl, Nat.zero_le _, fun j hj => absurd hj (by omega)⟩ hS
  clear hl hS
  intro st ls locs hI hS ih
  obtain ⟨i, rfl⟩ : ∃ z, z = st := ⟨_, rfl⟩
  obtain ⟨hl, hI⟩ := hI
  have hI1 := hI.1
  refine lv_iload_n hx hb dX7_allOnPadSuit_2 rfl (lv_at hl 1 rfl) ?_
  refine lv_aload_n hx hb dX7_allOnPadSuit_3 rfl (lv_at hl 0 rfl) ?_
  refine fs_get E hP (k := 0) (v := .ref (fa g 230)) 4 fc7 o_1x (by omega) (by decide) (wm wl_2 (i := 5) rfl) rfl dX7_allOnPadSuit_4 ?_
  refine fs_pi (va_runV (As := []) (rest := [.int (nI i)]) E.1 (c_X2_rumours l g N ct 230 t len (by omega) o_1P) (lk_RX7_99 E.1.2.2.2.2 ⟨Nat.le_of_ble_eq_true rfl, Nat.le_of_ble_eq_true rfl⟩) (fpreV E hP hS fc2 o_1p0 (by omega)) rfl rfl hl.1 rfl (lv_room (Nat.le_of_ble_eq_true rfl)) dX7_allOnPadSuit_7 ⟨Nat.zero_le _, Nat.zero_le _⟩) hS (fun r_7 locs p_7 hS => ?_)
  refine fs_vi (y := (nI ((len + 1) / 6))) p_7 ?_
  refine lv_icmp_ge (tgt := 55) hx hb dX7_allOnPadSuit_10 (by decide) (fun c_10 => ?_) (fun c_10 => ?_)
  · rw [nI_leI (by omega) (by omega)] at c_10
    refine lv_iconst (v := (nI 1)) hx hb dX7_allOnPadSuit_55 (by decide) ?_
    refine fs_pzret E hr rfl hlk hS dX7_allOnPadSuit_56 ?_
    exact bI_t (fun j hj => hI.2 j (by omega))
  · rw [nI_leI (by omega) (by omega)] at c_10
    have hpd := pd_lt hl5 hcs (j := i) (by omega)
    refine lv_aload_n hx hb dX7_allOnPadSuit_13 rfl (lv_at hl 0 rfl) ?_
    refine fs_get E hP (k := 0) (v := .ref (fa g 1)) 0 fc7 o_1x (by omega) (by decide) (wm wl_1 (i := 16) rfl) rfl dX7_allOnPadSuit_14 ?_
    refine lv_aload_n hx hb dX7_allOnPadSuit_17 rfl (lv_at hl 0 rfl) ?_
    refine fs_get E hP (k := 0) (v := .ref (fa g 230)) 4 fc7 o_1x (by omega) (by decide) (wm wl_2 (i := 5) rfl) rfl dX7_allOnPadSuit_18 ?_
    refine lv_iload_n hx hb dX7_allOnPadSuit_21 rfl (lv_at hl 1 rfl) ?_
    refine fs_pi (va_runV (As := [.int (nI i)]) (rest := [.ref (fa g 1)]) E.1 (c_X2_kindOf l g N ct 230 t len i (by omega) hl5 hcs (by omega) o_1P) (lk_RX7_106 E.1.2.2.2.2 ⟨Nat.le_of_ble_eq_true rfl, Nat.le_of_ble_eq_true rfl⟩) (fpreV E hP hS fc2 o_1p0 (by omega)) rfl rfl hl.1 rfl (lv_room (Nat.le_of_ble_eq_true rfl)) dX7_allOnPadSuit_22 ⟨Nat.zero_le _, Nat.zero_le _⟩) hS (fun r_22 locs p_22 hS => ?_)
    refine fs_vi (y := (nI (pdK t i))) p_22 ?_
    refine lv_aload_n hx hb dX7_allOnPadSuit_25 rfl (lv_at hl 0 rfl) ?_
    refine fs_get E hP (k := 0) (v := .ref (fa g 230)) 4 fc7 o_1x (by omega) (by decide) (wm wl_2 (i := 5) rfl) rfl dX7_allOnPadSuit_26 ?_
    refine lv_iload_n hx hb dX7_allOnPadSuit_29 rfl (lv_at hl 1 rfl) ?_
    refine fs_pi (va_runV (As := [.int (nI i)]) (rest := [.int (nI (pdK t i)), .ref (fa g 1)]) E.1 (c_X2_aOf l g N ct 230 t len i (by omega) hl5 hcs (by omega) o_1P) (lk_RX7_109 E.1.2.2.2.2 ⟨Nat.le_of_ble_eq_true rfl, Nat.le_of_ble_eq_true rfl⟩) (fpreV E hP hS fc2 o_1p0 (by omega)) rfl rfl hl.1 rfl (lv_room (Nat.le_of_ble_eq_true rfl)) dX7_allOnPadSuit_30 ⟨Nat.zero_le _, Nat.zero_le _⟩) hS (fun r_30 locs p_30 hS => ?_)
    refine fs_vi (y := (nI (pdA t i))) p_30 ?_
    refine lv_aload_n hx hb dX7_allOnPadSuit_33 rfl (lv_at hl 0 rfl) ?_
    refine fs_get E hP (k := 0) (v := .ref (fa g 230)) 4 fc7 o_1x (by omega) (by decide) (wm wl_2 (i := 5) rfl) rfl dX7_allOnPadSuit_34 ?_
    refine lv_iload_n hx hb dX7_allOnPadSuit_37 rfl (lv_at hl 1 rfl) ?_
    refine fs_pi (va_runV (As := [.int (nI i)]) (rest := [.int (nI (pdA t i)), .int (nI (pdK t i)), .ref (fa g 1)]) E.1 (c_X2_bOf l g N ct 230 t len i (by omega) hl5 hcs (by omega) o_1P) (lk_RX7_112 E.1.2.2.2.2 ⟨Nat.le_of_ble_eq_true rfl, Nat.le_of_ble_eq_true rfl⟩) (fpreV E hP hS fc2 o_1p0 (by omega)) rfl rfl hl.1 rfl (lv_room (Nat.le_of_ble_eq_true rfl)) dX7_allOnPadSuit_38 ⟨Nat.zero_le _, Nat.zero_le _⟩) hS (fun r_38 locs p_38 hS => ?_)
    refine fs_vi (y := (nI (pdB t i))) p_38 ?_
    refine fs_pi (va_runV (As := [.int (nI (pdK t i)), .int (nI (pdA t i)), .int (nI (pdB t i))]) (rest := []) E.1 (c_X1_suits l g N ct 1 (nB σ) (nT σ) (σ 2) 2 3 4 5 (by omega) o_1h0 (nI (pdK t i)) (nI (pdA t i)) (nI (pdB t i)) (by omega)) (lk_RX7_74 E.1.2.2.2.2 ⟨Nat.le_of_ble_eq_true rfl, Nat.le_of_ble_eq_true rfl⟩) (fpreV E hP hS fc1 o_1h0 (by omega)) rfl rfl hl.1 rfl (lv_room (Nat.le_of_ble_eq_true rfl)) dX7_allOnPadSuit_41 ⟨Nat.zero_le _, Nat.zero_le _⟩) hS (fun r_41 locs p_41 hS => ?_)
    refine lv_if_ne (tgt := 49) hx hb dX7_allOnPadSuit_44 (by decide) (fun c_44 => ?_) (fun c_44 => ?_)
    · have c_44 := (fb_1 p_41).mp c_44
      refine lv_iinc (v := (nI (i + 1))) (lv' := [(1, .int (nI (i + 1))), (0, .ref (fa g 0))]) hx hb dX7_allOnPadSuit_49 hl (k := 1) rfl (nI_1 _) (by decide) rfl (fun ls hl => ?_)
      refine lv_goto (tgt := 2) hx hb dX7_allOnPadSuit_52 (by decide) ?_
      exact ih (i + 1) ls _ (by (try dsimp only); omega) ⟨lv_sub hl [1, 0] rfl, by omega, fun j hj => (Nat.lt_or_ge j i).elim (fun z => hI.2 j z) (fun z => by rw [show j = i by omega]; exact c_44)⟩ hS
    · have c_44 := (fb_0 p_41).mp c_44
      refine lv_iconst (v := (nI 0)) hx hb dX7_allOnPadSuit_47 (by decide) ?_
      refine fs_pzret E hr rfl hlk hS dX7_allOnPadSuit_48 ?_
      exact bI_f (fun z => c_44 (z i (by omega)))

set_option maxRecDepth 100000 in
set_option maxHeartbeats 4000000 in
theorem c_X7_tellAll (l : Launch) (g : fG) (N : Nat) (ct : Nat → va_E) (σ : Nat → Int32) (k : Nat) (hs : Nat → Nat → Int32) (u1 : Bool) (s1 : Nat → Int32) (u2 : Bool) (s2 : Nat → Int32) (t : Nat → Nat) (len : Nat) (hN : 239 ≤ N) (hO : OGAt g ct σ k hs u1 s1 u2 s2 t len) : Met l yX7_tellAll (wsU yX7_tellAll cX7_tellAll 3 (some .int)) rX7_tellAll (fPre g N ct [.ref (fa g 0)]) (fQi g N (fun r ct1 => r = (if ¬ ffF t len = -6 then -3 else if ¬ (∀ j, j < (len + 1) / 6 → pdT t j < nB σ) then -1 else if ¬ (∀ j, j < (len + 1) / 6 → sux (nB σ) (nI (pdK t j)) (nI (pdA t j)) (nI (pdB t j))) then -2 else if ¬ nT σ + (len + 1) / 6 ≤ 20 then -4 else nI ((len + 1) / 6)) ∧ OGAt g ct1 (if ((ffF t len = -6 ∧ (∀ j, j < (len + 1) / 6 → pdT t j < nB σ)) ∧ (∀ j, j < (len + 1) / 6 → sux (nB σ) (nI (pdK t j)) (nI (pdA t j)) (nI (pdB t j)))) ∧ nT σ + (len + 1) / 6 ≤ 20 then tlR σ t ((len + 1) / 6) else σ) (if ((ffF t len = -6 ∧ (∀ j, j < (len + 1) / 6 → pdT t j < nB σ)) ∧ (∀ j, j < (len + 1) / 6 → sux (nB σ) (nI (pdK t j)) (nI (pdA t j)) (nI (pdB t j)))) ∧ nT σ + (len + 1) / 6 ≤ 20 then min (k + 1) 6 else k) (if ((ffF t len = -6 ∧ (∀ j, j < (len + 1) / 6 → pdT t j < nB σ)) ∧ (∀ j, j < (len + 1) / 6 → sux (nB σ) (nI (pdK t j)) (nI (pdA t j)) (nI (pdB t j)))) ∧ nT σ + (len + 1) / 6 ≤ 20 then recH σ hs else hs) u1 s1 u2 s2 t (if ((ffF t len = -6 ∧ (∀ j, j < (len + 1) / 6 → pdT t j < nB σ)) ∧ (∀ j, j < (len + 1) / 6 → sux (nB σ) (nI (pdK t j)) (nI (pdA t j)) (nI (pdB t j)))) ∧ nT σ + (len + 1) / 6 ≤ 20 then 0 else len) ∧ fSame 0 239 ct ct1)) 0 0 (fB g) := by
  refine fs_start (own := RX7) (lv0 := [(0, .ref (fa g 0))]) (by decide) rfl (Nat.le_of_ble_eq_true rfl) rfl ?_
  intro p e s m args below meth c ls E hr hlk hnm hP hl hS
  have hx := E.1.1
  have hb := E.1.2.1
  obtain ⟨sv, hO1, hsv⟩ := id hO
  obtain ⟨o_1x, o_1H, o_1G, o_1Y, o_11, o_12, o_1P, o_1V⟩ := id (hO1)
  have o_1n3 := o_1G.n3
  have o_1n6 := o_1G.n6
  have o_1k := o_1G.k
  obtain ⟨o_1h0, ⟨o_1fl, o_1hl, o_1lw⟩, ⟨o_1fs, o_1hs, o_1sw⟩, ⟨o_1fg, o_1hg, o_1gw⟩, ⟨o_1fr, o_1hr, o_1rw⟩, o_1ru⟩ := id o_1H
  obtain ⟨o_1n, o_1nl, o_1y0, o_1k6, -, -, -⟩ := id o_1Y
  obtain ⟨⟨o_1ws, o_1mp, o_1mw, o_1v0⟩, -⟩ := id o_1V
  have o_1p0 := o_1P.1
  have o_1p60 := o_1P.2.2.1
  have o_1a0 := o_11.1
  have o_1b0 := o_12.1
  refine lv_aload_n hx hb dX7_tellAll_0 rfl (lv_at hl 0 rfl) ?_
  refine fs_get E hP (k := 0) (v := .ref (fa g 230)) 4 fc7 o_1x (by omega) (by decide) (wm wl_2 (i := 5) rfl) rfl dX7_tellAll_1 ?_
  refine fs_pi (va_runV (As := []) (rest := []) E.1 (c_X2_firstFault l g N ct 230 t len (by omega) o_1P) (lk_RX7_88 E.1.2.2.2.2 ⟨Nat.le_of_ble_eq_true rfl, Nat.le_of_ble_eq_true rfl⟩) (fpreV E hP hS fc2 o_1p0 (by omega)) rfl rfl hl.1 rfl (lv_room (Nat.le_of_ble_eq_true rfl)) dX7_tellAll_4 ⟨Nat.zero_le _, Nat.zero_le _⟩) hS (fun r_4 locs p_4 hS => ?_)
  refine fs_vi (y := (ffF t len)) p_4 ?_
  refine lv_bipush (v := (-6)) hx hb dX7_tellAll_7 (by decide) ?_
  refine lv_icmp_eq (tgt := 15) hx hb dX7_tellAll_9 (by decide) (fun c_9 => ?_) (fun c_9 => ?_)
  · obtain ⟨hl5, hcs⟩ := ffF_ok o_1p60 c_9
    refine lv_aload_n hx hb dX7_tellAll_15 rfl (lv_at hl 0 rfl) ?_
    refine fs_pi (va_runV (As := []) (rest := []) E.1 (c_X7_allTellersAreThere l g N ct σ k hs u1 s1 u2 s2 t len (by omega) hO hl5 hcs) (lk_RX7_92 E.1.2.2.2.2 ⟨Nat.le_of_ble_eq_true rfl, Nat.le_of_ble_eq_true rfl⟩) (fpreV E hP hS fc7 o_1x (by omega)) rfl rfl hl.1 rfl (lv_room (Nat.le_of_ble_eq_true rfl)) dX7_tellAll_16 ⟨Nat.zero_le _, Nat.zero_le _⟩) hS (fun r_16 locs p_16 hS => ?_)
    refine lv_if_ne (tgt := 24) hx hb dX7_tellAll_19 (by decide) (fun c_19 => ?_) (fun c_19 => ?_)
    · have c_19 := (fb_1 p_16).mp c_19
      refine lv_aload_n hx hb dX7_tellAll_24 rfl (lv_at hl 0 rfl) ?_
      refine fs_pi (va_runV (As := []) (rest := []) E.1 (c_X7_allOnPadSuit l g N ct σ k hs u1 s1 u2 s2 t len (by omega) hO hl5 hcs) (lk_RX7_96 E.1.2.2.2.2 ⟨Nat.le_of_ble_eq_true rfl, Nat.le_of_ble_eq_true rfl⟩) (fpreV E hP hS fc7 o_1x (by omega)) rfl rfl hl.1 rfl (lv_room (Nat.le_of_ble_eq_true rfl)) dX7_tellAll_25 ⟨Nat.zero_le _, Nat.zero_le _⟩) hS (fun r_25 locs p_25 hS => ?_)
      refine lv_if_ne (tgt := 34) hx hb dX7_tellAll_28 (by decide) (fun c_28 => ?_) (fun c_28 => ?_)
      · have c_28 := (fb_1 p_25).mp c_28
        refine lv_aload_n hx hb dX7_tellAll_34 rfl (lv_at hl 0 rfl) ?_
        refine fs_get E hP (k := 0) (v := .ref (fa g 230)) 4 fc7 o_1x (by omega) (by decide) (wm wl_2 (i := 5) rfl) rfl dX7_tellAll_35 ?_
        refine fs_pi (va_runV (As := []) (rest := []) E.1 (c_X2_rumours l g N ct 230 t len (by omega) o_1P) (lk_RX7_99 E.1.2.2.2.2 ⟨Nat.le_of_ble_eq_true rfl, Nat.le_of_ble_eq_true rfl⟩) (fpreV E hP hS fc2 o_1p0 (by omega)) rfl rfl hl.1 rfl (lv_room (Nat.le_of_ble_eq_true rfl)) dX7_tellAll_38 ⟨Nat.zero_le _, Nat.zero_le _⟩) hS (fun r_38 locs p_38 hS => ?_)
        refine fs_vi (y := (nI ((len + 1) / 6))) p_38 ?_
        refine lv_istore_n (lv' := [(1, .int (nI ((len + 1) / 6))), (0, .ref (fa g 0))]) hx hb dX7_tellAll_41 rfl hl (by decide) rfl (fun ls hl => ?_)
        refine lv_aload_n hx hb dX7_tellAll_42 rfl (lv_at hl 1 rfl) ?_
        refine fs_get E hP (k := 0) (v := .ref (fa g 1)) 0 fc7 o_1x (by omega) (by decide) (wm wl_1 (i := 16) rfl) rfl dX7_tellAll_43 ?_
        refine lv_iload_n hx hb dX7_tellAll_46 rfl (lv_at hl 0 rfl) ?_
        refine fs_pi (va_runV (As := [.int (nI ((len + 1) / 6))]) (rest := []) E.1 (c_X1_hasRoomFor l g N ct 1 (nB σ) (nT σ) (σ 2) 2 3 4 5 (by omega) o_1h0 ((len + 1) / 6) (by omega) (by omega)) (lk_RX7_78 E.1.2.2.2.2 ⟨Nat.le_of_ble_eq_true rfl, Nat.le_of_ble_eq_true rfl⟩) (fpreV E hP hS fc1 o_1h0 (by omega)) rfl rfl hl.1 rfl (lv_room (Nat.le_of_ble_eq_true rfl)) dX7_tellAll_47 ⟨Nat.zero_le _, Nat.zero_le _⟩) hS (fun r_47 locs p_47 hS => ?_)
        refine lv_if_ne (tgt := 56) hx hb dX7_tellAll_50 (by decide) (fun c_50 => ?_) (fun c_50 => ?_)
        · have c_50 := (fb_1 p_47).mp c_50
          have hpk : padK σ t ((len + 1) / 6) := fun j hj => by
            have := pd_lt hl5 hcs hj
            exact ⟨c_19 j hj, (sux_nI (by omega) (by omega) (by omega)).mp (c_28 j hj)⟩
          have htl := tlR_ok o_1G c_50 hpk
          refine lv_aload_n hx hb dX7_tellAll_56 rfl (lv_at hl 1 rfl) ?_
          refine fs_v (va_runV (As := []) (rest := []) E.1 (c_X7_beginChange l g N ct sv σ k hs u1 s1 u2 s2 t len (by omega) hO1) (lk_RX7_55 E.1.2.2.2.2 ⟨Nat.le_of_ble_eq_true rfl, Nat.le_of_ble_eq_true rfl⟩) (fpreV E hP hS fc7 o_1x (by omega)) rfl rfl hl.1 rfl (lv_room (Nat.le_of_ble_eq_true rfl)) dX7_tellAll_57 ⟨Nat.zero_le _, Nat.zero_le _⟩) hS (fun ct_2 H locs p_57 hP hS => ?_)
          obtain ⟨o_3x, o_3H, o_3G, o_3Y, o_31, o_32, o_3P, o_3V⟩ := id (p_57.1)
          have o_3n3 := o_3G.n3
          have o_3n6 := o_3G.n6
          have o_3k := o_3G.k
          obtain ⟨o_3h0, ⟨o_3fl, o_3hl, o_3lw⟩, ⟨o_3fs, o_3hs, o_3sw⟩, ⟨o_3fg, o_3hg, o_3gw⟩, ⟨o_3fr, o_3hr, o_3rw⟩, o_3ru⟩ := id o_3H
          obtain ⟨o_3n, o_3nl, o_3y0, o_3k6, -, -, -⟩ := id o_3Y
          obtain ⟨⟨o_3ws, o_3mp, o_3mw, o_3v0⟩, -⟩ := id o_3V
          have o_3p0 := o_3P.1
          have o_3p60 := o_3P.2.2.1
          have o_3a0 := o_31.1
          have o_3b0 := o_32.1
          refine lv_iconst (v := (nI 0)) hx hb dX7_tellAll_60 (by decide) ?_
          refine lv_istore_n (lv' := [(2, .int (nI 0)), (1, .int (nI ((len + 1) / 6))), (0, .ref (fa g 0))]) hx hb dX7_tellAll_61 rfl hl (by decide) rfl (fun ls hl => ?_)
          refine fs_ind (g := g) (N := N) (St := Nat) (fun (i : Nat) (ct_4 : Nat → va_E) (ls : Array Slot) => lv_has ls 3 [(0, .ref (fa g 0)), (1, .int (nI ((len + 1) / 6))), (2, .int (nI i))] ∧ i ≤ (len + 1) / 6 ∧ OGx g ct_4 (nI 0) (tlR σ t i) (min (k + 1) 6) (recH σ hs) u1 s1 u2 s2 t len ∧ fSame 0 239 ct ct_4) (fun (i : Nat) => (len + 1) / 6 - i) ?_ 0 _ _ ls _ ⟨lv_sub hl [2, 1, 0] rfl, Nat.zero_le _, p_57.1, (show fSame 0 239 _ _ from (fSame.tr2 fSame.rf p_57.2 (by omega) (by omega)))⟩ hP hS
          clear hl hP hS
          intro st ct_4 H ls locs hI hP hS ih
          obtain ⟨i, rfl⟩ : ∃ z, z = st := ⟨_, rfl⟩
          obtain ⟨hl, hI⟩ := hI
          obtain ⟨o_5x, o_5H, o_5G, o_5Y, o_51, o_52, o_5P, o_5V⟩ := id (hI.2.1)
          have o_5n3 := o_5G.n3
          have o_5n6 := o_5G.n6
          have o_5k := o_5G.k
          obtain ⟨o_5h0, ⟨o_5fl, o_5hl, o_5lw⟩, ⟨o_5fs, o_5hs, o_5sw⟩, ⟨o_5fg, o_5hg, o_5gw⟩, ⟨o_5fr, o_5hr, o_5rw⟩, o_5ru⟩ := id o_5H
          obtain ⟨o_5n, o_5nl, o_5y0, o_5k6, -, -, -⟩ := id o_5Y
          obtain ⟨⟨o_5ws, o_5mp, o_5mw, o_5v0⟩, -⟩ := id o_5V
          have o_5p0 := o_5P.1
          have o_5p60 := o_5P.2.2.1
          have o_5a0 := o_51.1
          have o_5b0 := o_52.1
          have hI1 := hI.1
          have hti := htl i hI1
          have hTi : nT (tlR σ t i) ≤ 20 := hti.1.k
          refine lv_iload_n hx hb dX7_tellAll_62 rfl (lv_at hl 2 rfl) ?_
          refine lv_iload_n hx hb dX7_tellAll_63 rfl (lv_at hl 1 rfl) ?_
          refine lv_icmp_ge (tgt := 112) hx hb dX7_tellAll_64 (by decide) (fun c_64 => ?_) (fun c_64 => ?_)
          · rw [nI_leI (by omega) (by omega)] at c_64
            refine lv_aload_n hx hb dX7_tellAll_112 rfl (lv_at hl 0 rfl) ?_
            refine fs_get E hP (k := 0) (v := .ref (fa g 230)) 4 fc7 o_5x (by omega) (by decide) (wm wl_2 (i := 5) rfl) rfl dX7_tellAll_113 ?_
            refine fs_v (va_runV (As := []) (rest := []) E.1 (c_X2_empty l g N ct_4 230 t len (by omega) o_5P) (lk_RX7_115 E.1.2.2.2.2 ⟨Nat.le_of_ble_eq_true rfl, Nat.le_of_ble_eq_true rfl⟩) (fpreV E hP hS fc2 o_5p0 (by omega)) rfl rfl hl.1 rfl (lv_room (Nat.le_of_ble_eq_true rfl)) dX7_tellAll_116 ⟨Nat.zero_le _, Nat.zero_le _⟩) hS (fun ct_6 H locs p_116 hP hS => ?_)
            obtain rfl : i = (len + 1) / 6 := by omega
            have og9 := OGx.pad hI.2.1 p_116.1 p_116.2
            refine lv_iload_n hx hb dX7_tellAll_119 rfl (lv_at hl 1 rfl) ?_
            refine fs_iret E hr hlk hP hS dX7_tellAll_120 ?_
            refine ⟨?_, ?_, (show fSame 0 239 _ _ from (fSame.tr2 (fSame.tr2 fSame.rf hI.2.2 (by omega) (by omega)) p_116.2 (by omega) (by omega)))⟩
            · rw [if_neg (fun z => z c_9), if_neg (fun z => z c_19), if_neg (fun z => z c_28), if_neg (fun z => z c_50)]
            · rw [if_pos ⟨⟨⟨c_9, c_19⟩, c_28⟩, c_50⟩, if_pos ⟨⟨⟨c_9, c_19⟩, c_28⟩, c_50⟩, if_pos ⟨⟨⟨c_9, c_19⟩, c_28⟩, c_50⟩, if_pos ⟨⟨⟨c_9, c_19⟩, c_28⟩, c_50⟩]; exact (OGx.at0 og9)
          · rw [nI_leI (by omega) (by omega)] at c_64
            have hpd := pd_lt hl5 hcs (j := i) (by omega)
            refine lv_aload_n hx hb dX7_tellAll_67 rfl (lv_at hl 0 rfl) ?_
            refine fs_get E hP (k := 0) (v := .ref (fa g 1)) 0 fc7 o_5x (by omega) (by decide) (wm wl_1 (i := 16) rfl) rfl dX7_tellAll_68 ?_
            refine lv_aload_n hx hb dX7_tellAll_71 rfl (lv_at hl 0 rfl) ?_
            refine fs_get E hP (k := 0) (v := .ref (fa g 230)) 4 fc7 o_5x (by omega) (by decide) (wm wl_2 (i := 5) rfl) rfl dX7_tellAll_72 ?_
            refine lv_iload_n hx hb dX7_tellAll_75 rfl (lv_at hl 2 rfl) ?_
            refine fs_pi (va_runV (As := [.int (nI i)]) (rest := [.ref (fa g 1)]) E.1 (c_X2_tellerOf l g N ct_4 230 t len i (by omega) hl5 hcs (by omega) o_5P) (lk_RX7_102 E.1.2.2.2.2 ⟨Nat.le_of_ble_eq_true rfl, Nat.le_of_ble_eq_true rfl⟩) (fpreV E hP hS fc2 o_5p0 (by omega)) rfl rfl hl.1 rfl (lv_room (Nat.le_of_ble_eq_true rfl)) dX7_tellAll_76 ⟨Nat.zero_le _, Nat.zero_le _⟩) hS (fun r_76 locs p_76 hS => ?_)
            refine fs_vi (y := (nI (pdT t i))) p_76 ?_
            refine lv_aload_n hx hb dX7_tellAll_79 rfl (lv_at hl 0 rfl) ?_
            refine fs_get E hP (k := 0) (v := .ref (fa g 230)) 4 fc7 o_5x (by omega) (by decide) (wm wl_2 (i := 5) rfl) rfl dX7_tellAll_80 ?_
            refine lv_iload_n hx hb dX7_tellAll_83 rfl (lv_at hl 2 rfl) ?_
            refine fs_pi (va_runV (As := [.int (nI i)]) (rest := [.int (nI (pdT t i)), .ref (fa g 1)]) E.1 (c_X2_kindOf l g N ct_4 230 t len i (by omega) hl5 hcs (by omega) o_5P) (lk_RX7_106 E.1.2.2.2.2 ⟨Nat.le_of_ble_eq_true rfl, Nat.le_of_ble_eq_true rfl⟩) (fpreV E hP hS fc2 o_5p0 (by omega)) rfl rfl hl.1 rfl (lv_room (Nat.le_of_ble_eq_true rfl)) dX7_tellAll_84 ⟨Nat.zero_le _, Nat.zero_le _⟩) hS (fun r_84 locs p_84 hS => ?_)
            refine fs_vi (y := (nI (pdK t i))) p_84 ?_
            refine lv_aload_n hx hb dX7_tellAll_87 rfl (lv_at hl 0 rfl) ?_
            refine fs_get E hP (k := 0) (v := .ref (fa g 230)) 4 fc7 o_5x (by omega) (by decide) (wm wl_2 (i := 5) rfl) rfl dX7_tellAll_88 ?_
            refine lv_iload_n hx hb dX7_tellAll_91 rfl (lv_at hl 2 rfl) ?_
            refine fs_pi (va_runV (As := [.int (nI i)]) (rest := [.int (nI (pdK t i)), .int (nI (pdT t i)), .ref (fa g 1)]) E.1 (c_X2_aOf l g N ct_4 230 t len i (by omega) hl5 hcs (by omega) o_5P) (lk_RX7_109 E.1.2.2.2.2 ⟨Nat.le_of_ble_eq_true rfl, Nat.le_of_ble_eq_true rfl⟩) (fpreV E hP hS fc2 o_5p0 (by omega)) rfl rfl hl.1 rfl (lv_room (Nat.le_of_ble_eq_true rfl)) dX7_tellAll_92 ⟨Nat.zero_le _, Nat.zero_le _⟩) hS (fun r_92 locs p_92 hS => ?_)
            refine fs_vi (y := (nI (pdA t i))) p_92 ?_
            refine lv_aload_n hx hb dX7_tellAll_95 rfl (lv_at hl 0 rfl) ?_
            refine fs_get E hP (k := 0) (v := .ref (fa g 230)) 4 fc7 o_5x (by omega) (by decide) (wm wl_2 (i := 5) rfl) rfl dX7_tellAll_96 ?_
            refine lv_iload_n hx hb dX7_tellAll_99 rfl (lv_at hl 2 rfl) ?_
            refine fs_pi (va_runV (As := [.int (nI i)]) (rest := [.int (nI (pdA t i)), .int (nI (pdK t i)), .int (nI (pdT t i)), .ref (fa g 1)]) E.1 (c_X2_bOf l g N ct_4 230 t len i (by omega) hl5 hcs (by omega) o_5P) (lk_RX7_112 E.1.2.2.2.2 ⟨Nat.le_of_ble_eq_true rfl, Nat.le_of_ble_eq_true rfl⟩) (fpreV E hP hS fc2 o_5p0 (by omega)) rfl rfl hl.1 rfl (lv_room (Nat.le_of_ble_eq_true rfl)) dX7_tellAll_100 ⟨Nat.zero_le _, Nat.zero_le _⟩) hS (fun r_100 locs p_100 hS => ?_)
            refine fs_vi (y := (nI (pdB t i))) p_100 ?_
            refine fs_v (va_runV (As := [.int (nI (pdT t i)), .int (nI (pdK t i)), .int (nI (pdA t i)), .int (nI (pdB t i))]) (rest := []) E.1 (c_X1_addRumour l g N ct_4 1 (tlR σ t i) (pdT t i) (pdK t i) (pdA t i) (pdB t i) (by omega) o_5G (by rw [hti.2.2]; omega) (by rw [hti.2.1]; exact (hpk i (by omega)).1) (by rw [hti.2.1]; exact (hpk i (by omega)).2) o_5H) (lk_RX7_81 E.1.2.2.2.2 ⟨Nat.le_of_ble_eq_true rfl, Nat.le_of_ble_eq_true rfl⟩) (fpreV E hP hS fc1 o_5h0 (by omega)) rfl rfl hl.1 rfl (lv_room (Nat.le_of_ble_eq_true rfl)) dX7_tellAll_103 ⟨Nat.zero_le _, Nat.zero_le _⟩) hS (fun ct_7 H locs p_103 hP hS => ?_)
            have og7 := OGx.house hI.2.1 p_103.1 (htl (i + 1) (by omega)).1 p_103.2
            refine lv_iinc (v := (nI (i + 1))) (lv' := [(2, .int (nI (i + 1))), (0, .ref (fa g 0)), (1, .int (nI ((len + 1) / 6)))]) hx hb dX7_tellAll_106 hl (k := 2) rfl (nI_1 _) (by decide) rfl (fun ls hl => ?_)
            refine lv_goto (tgt := 62) hx hb dX7_tellAll_109 (by decide) ?_
            exact ih (i + 1) _ _ ls _ (by (try dsimp only); omega) ⟨lv_sub hl [1, 2, 0] rfl, by omega, og7, (show fSame 0 239 _ _ from (fSame.tr2 (fSame.tr2 fSame.rf hI.2.2 (by omega) (by omega)) p_103.2 (by omega) (by omega)))⟩ hP hS
        · have c_50 := (fb_0 p_47).mp c_50
          refine lv_bipush (v := (-4)) hx hb dX7_tellAll_53 (by decide) ?_
          refine fs_iret E hr hlk hP hS dX7_tellAll_55 ?_
          refine ⟨?_, ?_, fSame.rf⟩
          · rw [if_neg (fun z => z c_9), if_neg (fun z => z c_19), if_neg (fun z => z c_28), if_pos c_50]
          · rw [if_neg (fun z => c_50 z.2), if_neg (fun z => c_50 z.2), if_neg (fun z => c_50 z.2), if_neg (fun z => c_50 z.2)]; exact hO
      · have c_28 := (fb_0 p_25).mp c_28
        refine lv_bipush (v := (-2)) hx hb dX7_tellAll_31 (by decide) ?_
        refine fs_iret E hr hlk hP hS dX7_tellAll_33 ?_
        refine ⟨?_, ?_, fSame.rf⟩
        · rw [if_neg (fun z => z c_9), if_neg (fun z => z c_19), if_pos c_28]
        · rw [if_neg (fun z => c_28 z.1.2), if_neg (fun z => c_28 z.1.2), if_neg (fun z => c_28 z.1.2), if_neg (fun z => c_28 z.1.2)]; exact hO
    · have c_19 := (fb_0 p_16).mp c_19
      refine lv_iconst (v := (-1)) hx hb dX7_tellAll_22 (by decide) ?_
      refine fs_iret E hr hlk hP hS dX7_tellAll_23 ?_
      refine ⟨?_, ?_, fSame.rf⟩
      · rw [if_neg (fun z => z c_9), if_pos c_19]
      · rw [if_neg (fun z => c_19 z.1.1.2), if_neg (fun z => c_19 z.1.1.2), if_neg (fun z => c_19 z.1.1.2), if_neg (fun z => c_19 z.1.1.2)]; exact hO
  · refine lv_bipush (v := (-3)) hx hb dX7_tellAll_12 (by decide) ?_
    refine fs_iret E hr hlk hP hS dX7_tellAll_14 ?_
    refine ⟨?_, ?_, fSame.rf⟩
    · rw [if_pos c_9]
    · rw [if_neg (fun z => c_9 z.1.1.1), if_neg (fun z => c_9 z.1.1.1), if_neg (fun z => c_9 z.1.1.1), if_neg (fun z => c_9 z.1.1.1)]; exact hO
