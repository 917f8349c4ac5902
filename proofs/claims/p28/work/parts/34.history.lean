/-! the whole object: the house at 1, the history at 26, slots at 178 and 204, the pad at 230, the survey at 232 -/
def HistAt (g : fG) (ct : Nat → va_E) (k : Nat) (hs : Nat → Nat → Int32) : Prop :=
  ∃ n, n < 6 ∧ ct 26 = .inr (0, [.ref (fa g 27), .int (nI k), .int (nI n)]) ∧ k ≤ 6 ∧ (∃ f : Nat → Option Nat, ct 27 = .inl (fcH g, 6, .inr (.inr (.inr (.inr f)))) ∧ ∀ j, j < 6 → f j = some (fa g (28 + 25 * j))) ∧ (∀ j, j < 6 → HouseSh g ct (28 + 25 * j)) ∧ ∀ i, i < k → HouseAt g ct (28 + 25 * ((n + 5 - i) % 6)) (hs i) ∧ Good (hs i)
def recH (σ : Nat → Int32) (hs : Nat → Nat → Int32) : Nat → Nat → Int32 := fun i => if i = 0 then σ else hs (i - 1)
theorem HistAt.keep {g : fG} {ct ct1 : Nat → va_E} {k : Nat} {hs : Nat → Nat → Int32} (H : HistAt g ct k hs) (h : ∀ j, 26 ≤ j → j < 178 → ct1 j = ct j) : HistAt g ct1 k hs := by
  obtain ⟨n, hn, a, b, ⟨f, c, d⟩, e, w⟩ := H
  refine ⟨n, hn, (h _ (by omega) (by omega)).trans a, b, ⟨f, (h _ (by omega) (by omega)).trans c, d⟩, fun j hj => (e j hj).keep (fun q h1 h2 => h q (by omega) (by omega)), fun i hi => ⟨(w i hi).1.keep (fun q h1 h2 => h q ?_ ?_), (w i hi).2⟩⟩
  · have := Nat.mod_lt (n + 5 - i) (show 0 < 6 by omega); omega
  · have := Nat.mod_lt (n + 5 - i) (show 0 < 6 by omega); omega
theorem HistAt.made {g : fG} {ct : Nat → va_E} {hs : Nat → Nat → Int32} (H : HistMk g ct 26 6) : HistAt g ct 0 hs := by
  obtain ⟨a, f, b, c, d⟩ := H
  exact ⟨0, by omega, a, by omega, ⟨f, b, c⟩, d, fun i hi => absurd hi (by omega)⟩
theorem HistAt.put {g : fG} {ct ct1 : Nat → va_E} {k n : Nat} {σ : Nat → Int32} {hs : Nat → Nat → Int32} {f : Nat → Option Nat} (hn : n < 6) (hk : k ≤ 6) (hG : Good σ) (hf : ct1 27 = .inl (fcH g, 6, .inr (.inr (.inr (.inr f))))) (hff : ∀ j, j < 6 → f j = some (fa g (28 + 25 * j))) (e : ∀ j, j < 6 → HouseSh g ct (28 + 25 * j)) (w : ∀ i, i < k → HouseAt g ct (28 + 25 * ((n + 5 - i) % 6)) (hs i) ∧ Good (hs i))
    (h0 : ct1 26 = .inr (0, [.ref (fa g 27), .int (nI (min (k + 1) 6)), .int (nI (if n + 1 < 6 then n + 1 else 0))])) (hH : HouseAt g ct1 (28 + 25 * n) σ) (hs2 : ∀ j, 28 ≤ j → (j < 28 + 25 * n ∨ 28 + 25 * n + 25 ≤ j) → ct1 j = ct j) : HistAt g ct1 (min (k + 1) 6) (recH σ hs) := by
  refine ⟨if n + 1 < 6 then n + 1 else 0, by split <;> omega, h0, by omega, ⟨f, hf, hff⟩, fun j hj => ?_, fun i hi => ?_⟩
  · by_cases z : j = n
    · subst z; exact hH.sh
    · exact (e j hj).keep (fun q h1 h2 => hs2 q (by omega) (by omega))
  · by_cases z : i = 0
    · subst z
      have e1 : ((if n + 1 < 6 then n + 1 else 0) + 5 - 0) % 6 = n := by split <;> omega
      rw [e1]; exact ⟨hH, hG⟩
    · have e1 : ((if n + 1 < 6 then n + 1 else 0) + 5 - i) % 6 = (n + 5 - (i - 1)) % 6 := by split <;> omega
      have e2 : (n + 5 - (i - 1)) % 6 ≠ n := by omega
      have e3 : (n + 5 - (i - 1)) % 6 < 6 := Nat.mod_lt _ (by omega)
      have e4 : recH σ hs i = hs (i - 1) := if_neg z
      rw [e1, e4]
      have w1 := w (i - 1) (by omega)
      exact ⟨w1.1.keep (fun q h1 h2 => hs2 q (by omega) (by omega)), w1.2⟩
theorem HistAt.back {g : fG} {ct ct1 : Nat → va_E} {k n : Nat} {hs : Nat → Nat → Int32} {f : Nat → Option Nat} (hn : n < 6) (hk : k ≤ 6) (hk0 : 0 < k) (hf : ct1 27 = .inl (fcH g, 6, .inr (.inr (.inr (.inr f))))) (hff : ∀ j, j < 6 → f j = some (fa g (28 + 25 * j))) (e : ∀ j, j < 6 → HouseSh g ct (28 + 25 * j)) (w : ∀ i, i < k → HouseAt g ct (28 + 25 * ((n + 5 - i) % 6)) (hs i) ∧ Good (hs i))
    (h0 : ct1 26 = .inr (0, [.ref (fa g 27), .int (nI (k - 1)), .int (nI ((n + 5) % 6))])) (hs2 : ∀ j, 28 ≤ j → ct1 j = ct j) : HistAt g ct1 (k - 1) (fun i => hs (i + 1)) := by
  refine ⟨(n + 5) % 6, Nat.mod_lt _ (by omega), h0, by omega, ⟨f, hf, hff⟩, fun j hj => (e j hj).keep (fun q h1 h2 => hs2 q (by omega)), fun i hi => ?_⟩
  have e1 : ((n + 5) % 6 + 5 - i) % 6 = (n + 5 - (i + 1)) % 6 := by omega
  rw [e1]
  have w1 := w (i + 1) (by omega)
  exact ⟨w1.1.keep (fun q h1 h2 => hs2 q (by omega)), w1.2⟩
theorem min_if {a b : Nat} (ha : a < 2147483648) (hb : b < 2147483648) : (if nI b < nI a then nI b else nI a) = nI (min a b) := by
  by_cases z : b < a
  · rw [if_pos ((nI_ltI hb ha).mpr z), Nat.min_eq_right (by omega)]
  · rw [if_neg (fun y => z ((nI_ltI hb ha).mp y)), Nat.min_eq_left (by omega)]

set_option maxRecDepth 100000 in
set_option maxHeartbeats 4000000 in
theorem c_X0_stateAt (l : Launch) (g : fG) (N : Nat) (ct : Nat → va_E) (k n0 : Nat) (f : Nat → Option Nat) (hN : 178 ≤ N) (hh0 : ct 26 = .inr (0, [.ref (fa g 27), .int (nI k), .int (nI n0)])) (hh1 : ct 27 = .inl (fcH g, 6, .inr (.inr (.inr (.inr f))))) (hff : ∀ j, j < 6 → f j = some (fa g (28 + 25 * j))) (i : Nat) (hi : i < 6) : Met l yX0_stateAt (wsU yX0_stateAt cX0_stateAt 2 (some (.object "OperaGlasses$House"))) rX0_stateAt (fPre g N ct [.ref (fa g 26), .int (nI i)]) (fQpr (fun r => r = .ref (fa g (28 + 25 * i)))) 0 0 (fB g) := by
  refine fs_start (own := RX0) (lv0 := [(0, .ref (fa g 26)), (1, .int (nI i))]) (by decide) rfl (Nat.le_of_ble_eq_true rfl) rfl ?_
  intro p e s m args below meth c ls E hr hlk hnm hP hl hS
  have hx := E.1.1
  have hb := E.1.2.1
  refine lv_iload_n hx hb dX0_stateAt_0 rfl (lv_at hl 1 rfl) ?_
  refine lv_if_lt (tgt := 22) hx hb dX0_stateAt_1 (by decide) (fun c_1 => ?_) (fun c_1 => ?_)
  · rw [fz_ltN (by omega)] at c_1
    refine lv_null hx hb dX0_stateAt_22 ?_
    refine fs_paret E hr (Or.inl rfl) hlk hS dX0_stateAt_23 ?_
    exfalso; omega
  · rw [fz_ltN (by omega)] at c_1
    refine lv_iload_n hx hb dX0_stateAt_4 rfl (lv_at hl 1 rfl) ?_
    refine lv_aload_n hx hb dX0_stateAt_5 rfl (lv_at hl 0 rfl) ?_
    refine fs_get E hP (k := 26) (v := .ref (fa g 27)) 0 fc0 hh0 (by omega) (by decide) (wm wl_3 (i := 2) rfl) rfl dX0_stateAt_6 ?_
    refine fs_alenH E hP (k := 27) hh1 (by omega) dX0_stateAt_9 ?_
    refine lv_icmp_ge (tgt := 22) hx hb dX0_stateAt_10 (by decide) (fun c_10 => ?_) (fun c_10 => ?_)
    · rw [nI_leI (by omega) (by omega)] at c_10
      refine lv_null hx hb dX0_stateAt_22 ?_
      refine fs_paret E hr (Or.inl rfl) hlk hS dX0_stateAt_23 ?_
      exfalso; omega
    · rw [nI_leI (by omega) (by omega)] at c_10
      refine lv_aload_n hx hb dX0_stateAt_13 rfl (lv_at hl 0 rfl) ?_
      refine fs_get E hP (k := 26) (v := .ref (fa g 27)) 0 fc0 hh0 (by omega) (by decide) (wm wl_3 (i := 2) rfl) rfl dX0_stateAt_14 ?_
      refine lv_iload_n hx hb dX0_stateAt_17 rfl (lv_at hl 1 rfl) ?_
      refine fs_aaldH E hP (k := 27) hh1 (by omega) (vp_in_nI (by omega) (by omega)) dX0_stateAt_18 ?_
      refine fs_vv (y := .ref (fa g (28 + 25 * i))) (by rw [nI_clamp (by omega), hff _ hi]; rfl) ?_
      refine lv_goto (tgt := 23) hx hb dX0_stateAt_19 (by decide) ?_
      refine fs_paret E hr (Or.inr ⟨_, rfl⟩) hlk hS dX0_stateAt_23 ?_
      rfl

set_option maxRecDepth 100000 in
set_option maxHeartbeats 4000000 in
theorem c_X0_record (l : Launch) (g : fG) (N : Nat) (ct : Nat → va_E) (k : Nat) (hs : Nat → Nat → Int32) (σ : Nat → Int32) (hN : 178 ≤ N) (hG : Good σ) (hH : HouseAt g ct 1 σ) (hHi : HistAt g ct k hs) : Met l yX0_record (wsU yX0_record cX0_record 3 none) rX0_record (fPre g N ct [.ref (fa g 26), .ref (fa g 1)]) (fQv g N (fun ct1 => HistAt g ct1 (min (k + 1) 6) (recH σ hs) ∧ fSame 26 178 ct ct1)) 0 0 (fB g) := by
  refine fs_start (own := RX0) (lv0 := [(0, .ref (fa g 26)), (1, .ref (fa g 1))]) (by decide) rfl (Nat.le_of_ble_eq_true rfl) rfl ?_
  intro p e s m args below meth c ls E hr hlk hnm hP hl hS
  have hx := E.1.1
  have hb := E.1.2.1
  obtain ⟨n0, hn0, hh0, hk6, ⟨f, hh1, hff⟩, hsh, hhs⟩ := id hHi
  refine lv_aload_n hx hb dX0_record_0 rfl (lv_at hl 0 rfl) ?_
  refine lv_aload_n hx hb dX0_record_1 rfl (lv_at hl 0 rfl) ?_
  refine fs_get E hP (k := 26) (v := .int (nI n0)) 2 fc0 hh0 (by omega) (by decide) (wm wl_5 (i := 15) rfl) rfl dX0_record_2 ?_
  refine fs_pr (va_runV (As := [.int (nI n0)]) (rest := []) E.1 (c_X0_stateAt l g N ct k n0 f (by omega) hh0 hh1 hff n0 (by omega)) (lk_RX0_22 E.1.2.2.2.2 ⟨Nat.le_of_ble_eq_true rfl, Nat.le_of_ble_eq_true rfl⟩) (fpreV E hP hS fc0 hh0 (by omega)) rfl rfl hl.1 rfl (lv_room (Nat.le_of_ble_eq_true rfl)) dX0_record_5 ⟨Nat.zero_le _, Nat.zero_le _⟩) hS (fun r_5 locs p_5 hS => ?_)
  refine fs_vv (y := .ref (fa g (28 + 25 * n0))) p_5 ?_
  refine lv_astore_n (lv' := [(2, .ref (fa g (28 + 25 * n0))), (0, .ref (fa g 26)), (1, .ref (fa g 1))]) hx hb dX0_record_8 rfl hl (by decide) rfl (fun ls hl => ?_)
  refine lv_aload_n hx hb dX0_record_9 rfl (lv_at hl 0 rfl) ?_
  refine lv_ifnonnull (tgt := 14) hx hb dX0_record_10 (by decide) ?_
  refine lv_aload_n hx hb dX0_record_14 rfl (lv_at hl 0 rfl) ?_
  refine lv_aload_n hx hb dX0_record_15 rfl (lv_at hl 2 rfl) ?_
  obtain ⟨⟨z_1b, z_1a, z_1t, z_1h⟩, -⟩ := id (hsh n0 hn0)
  refine fs_v (va_runV (As := [.ref (fa g 1)]) (rest := []) E.1 (c_X1_copyFrom l g N ct (28 + 25 * n0) 1 σ (by omega) (by omega) (by omega) hG (hsh n0 hn0) hH) (lk_RX0_26 E.1.2.2.2.2 ⟨Nat.le_of_ble_eq_true rfl, Nat.le_of_ble_eq_true rfl⟩) (fpreV E hP hS fc1 z_1h (by omega)) rfl rfl hl.1 rfl (lv_room (Nat.le_of_ble_eq_true rfl)) dX0_record_16 ⟨Nat.zero_le _, Nat.zero_le _⟩) hS (fun ct_2 H locs p_16 hP hS => ?_)
  have h_3 : ct_2 26 = .inr (0, [.ref (fa g 27), .int (nI k), .int (nI n0)]) := (p_16.2 _ (by omega)).trans hh0
  have h_4 : ct_2 27 = .inl (fcH g, 6, .inr (.inr (.inr (.inr f)))) := (p_16.2 _ (by omega)).trans hh1
  refine lv_aload_n hx hb dX0_record_19 rfl (lv_at hl 1 rfl) ?_
  refine lv_aload_n hx hb dX0_record_20 rfl (lv_at hl 1 rfl) ?_
  refine fs_get E hP (k := 26) (v := .int (nI n0)) 2 fc0 h_3 (by omega) (by decide) (wm wl_5 (i := 15) rfl) rfl dX0_record_21 ?_
  refine lv_iconst (v := (nI 1)) hx hb dX0_record_24 (by decide) ?_
  refine lv_iadd hx hb dX0_record_25 ?_
  refine fs_vi (y := (nI (n0 + 1))) (nI_1 _) ?_
  refine lv_aload_n hx hb dX0_record_26 rfl (lv_at hl 1 rfl) ?_
  refine fs_get E hP (k := 26) (v := .ref (fa g 27)) 0 fc0 h_3 (by omega) (by decide) (wm wl_3 (i := 2) rfl) rfl dX0_record_27 ?_
  refine fs_alenH E hP (k := 27) h_4 (by omega) dX0_record_30 ?_
  refine lv_icmp_ge (tgt := 43) hx hb dX0_record_31 (by decide) (fun c_31 => ?_) (fun c_31 => ?_)
  · rw [nI_leI (by omega) (by omega)] at c_31
    refine lv_iconst (v := (nI 0)) hx hb dX0_record_43 (by decide) ?_
    refine fs_vi (y := nI (if n0 + 1 < 6 then n0 + 1 else 0)) (congrArg nI (by rw [if_neg (by omega)])) ?_
    refine fs_put E hP hS (k := 26) 2 fc0 h_3 (by omega) (by decide) (wm wl_5 (i := 15) rfl) rfl rfl rfl rfl (Nat.le_of_ble_eq_true rfl) dX0_record_44 (fun ct_5 H locs q_6 hP hS => ?_)
    have h_7 : ct_5 26 = .inr (0, [.ref (fa g 27), .int (nI k), .int (nI (if n0 + 1 < 6 then n0 + 1 else 0))]) := by rw [q_6]; exact fu_eq _ _ _
    have h_8 : ct_5 27 = .inl (fcH g, 6, .inr (.inr (.inr (.inr f)))) := by rw [q_6]; exact (fu_ne (by omega)).trans h_4
    refine lv_aload_n hx hb dX0_record_47 rfl (lv_at hl 1 rfl) ?_
    refine lv_aload_n hx hb dX0_record_48 rfl (lv_at hl 1 rfl) ?_
    refine fs_get E hP (k := 26) (v := .int (nI k)) 1 fc0 h_7 (by omega) (by decide) (wm wl_5 (i := 16) rfl) rfl dX0_record_49 ?_
    refine lv_iconst (v := (nI 1)) hx hb dX0_record_52 (by decide) ?_
    refine lv_iadd hx hb dX0_record_53 ?_
    refine fs_vi (y := (nI (k + 1))) (nI_1 _) ?_
    refine lv_aload_n hx hb dX0_record_54 rfl (lv_at hl 1 rfl) ?_
    refine fs_get E hP (k := 26) (v := .ref (fa g 27)) 0 fc0 h_7 (by omega) (by decide) (wm wl_3 (i := 2) rfl) rfl dX0_record_55 ?_
    refine fs_alenH E hP (k := 27) h_8 (by omega) dX0_record_58 ?_
    refine va_mmin hx hb (by rw [E.1.2.2.1]; exact hl.1.symm) E.1.2.2.2.1 (E.1.2.2.2.2 _ (wm wl_5 (i := 17) rfl)) (E.1.2.2.2.2 _ (wm wl_5 (i := 18) rfl)) (E.1.2.2.2.2 _ (wm wl_5 (i := 19) rfl)) (E.1.2.2.2.2 _ (wm wl_5 (i := 20) rfl)) (Nat.le_of_ble_eq_true rfl) (Nat.le_of_ble_eq_true rfl) (Nat.zero_le _) (Nat.zero_le _) dX0_record_59 ?_
    refine fs_vi (y := (nI (min (k + 1) 6))) (min_if (by omega) (by omega)) ?_
    refine fs_put E hP hS (k := 26) 1 fc0 h_7 (by omega) (by decide) (wm wl_5 (i := 16) rfl) rfl rfl rfl rfl (Nat.le_of_ble_eq_true rfl) dX0_record_62 (fun ct_9 H locs q_10 hP hS => ?_)
    have h_11 : ct_9 26 = .inr (0, [.ref (fa g 27), .int (nI (min (k + 1) 6)), .int (nI (if n0 + 1 < 6 then n0 + 1 else 0))]) := by rw [q_10]; exact fu_eq _ _ _
    have h_12 : ct_9 27 = .inl (fcH g, 6, .inr (.inr (.inr (.inr f)))) := by rw [q_10]; exact (fu_ne (by omega)).trans h_8
    refine fs_vret E hr hlk hP hS dX0_record_65 ?_
    refine ⟨HistAt.put hn0 hk6 hG h_12 hff hsh hhs h_11 (HouseAt.keep p_16.1 (fun j h1 h2 => ((show ct_9 j = ct_5 j by rw [q_10]; exact fu_ne (by omega))).trans ((show ct_5 j = ct_2 j by rw [q_6]; exact fu_ne (by omega))))) (fun j h1 h2 => (fun j (_ : 28 ≤ j) (_ : j < 28 + 25 * n0 ∨ 28 + 25 * n0 + 25 ≤ j) => ((show ct_9 j = ct_5 j by rw [q_10]; exact fu_ne (by omega))).trans (((show ct_5 j = ct_2 j by rw [q_6]; exact fu_ne (by omega))).trans ((p_16.2 j (by omega))))) j h1 h2), fSame.tr2 (lo := 26) (hi := 178) (fSame.wide (p_16.2) (by omega) (by omega)) (show fSame 26 27 _ _ from (fSame.ap (fSame.ap fSame.rf q_6 (by omega) (by omega)) q_10 (by omega) (by omega))) (by omega) (by omega)⟩
  · rw [nI_leI (by omega) (by omega)] at c_31
    refine lv_aload_n hx hb dX0_record_34 rfl (lv_at hl 1 rfl) ?_
    refine fs_get E hP (k := 26) (v := .int (nI n0)) 2 fc0 h_3 (by omega) (by decide) (wm wl_5 (i := 15) rfl) rfl dX0_record_35 ?_
    refine lv_iconst (v := (nI 1)) hx hb dX0_record_38 (by decide) ?_
    refine lv_iadd hx hb dX0_record_39 ?_
    refine fs_vi (y := (nI (n0 + 1))) (nI_1 _) ?_
    refine lv_goto (tgt := 44) hx hb dX0_record_40 (by decide) ?_
    refine fs_vi (y := nI (if n0 + 1 < 6 then n0 + 1 else 0)) (congrArg nI (by rw [if_pos (by omega)])) ?_
    refine fs_put E hP hS (k := 26) 2 fc0 h_3 (by omega) (by decide) (wm wl_5 (i := 15) rfl) rfl rfl rfl rfl (Nat.le_of_ble_eq_true rfl) dX0_record_44 (fun ct_13 H locs q_14 hP hS => ?_)
    have h_15 : ct_13 26 = .inr (0, [.ref (fa g 27), .int (nI k), .int (nI (if n0 + 1 < 6 then n0 + 1 else 0))]) := by rw [q_14]; exact fu_eq _ _ _
    have h_16 : ct_13 27 = .inl (fcH g, 6, .inr (.inr (.inr (.inr f)))) := by rw [q_14]; exact (fu_ne (by omega)).trans h_4
    refine lv_aload_n hx hb dX0_record_47 rfl (lv_at hl 1 rfl) ?_
    refine lv_aload_n hx hb dX0_record_48 rfl (lv_at hl 1 rfl) ?_
    refine fs_get E hP (k := 26) (v := .int (nI k)) 1 fc0 h_15 (by omega) (by decide) (wm wl_5 (i := 16) rfl) rfl dX0_record_49 ?_
    refine lv_iconst (v := (nI 1)) hx hb dX0_record_52 (by decide) ?_
    refine lv_iadd hx hb dX0_record_53 ?_
    refine fs_vi (y := (nI (k + 1))) (nI_1 _) ?_
    refine lv_aload_n hx hb dX0_record_54 rfl (lv_at hl 1 rfl) ?_
    refine fs_get E hP (k := 26) (v := .ref (fa g 27)) 0 fc0 h_15 (by omega) (by decide) (wm wl_3 (i := 2) rfl) rfl dX0_record_55 ?_
    refine fs_alenH E hP (k := 27) h_16 (by omega) dX0_record_58 ?_
    refine va_mmin hx hb (by rw [E.1.2.2.1]; exact hl.1.symm) E.1.2.2.2.1 (E.1.2.2.2.2 _ (wm wl_5 (i := 17) rfl)) (E.1.2.2.2.2 _ (wm wl_5 (i := 18) rfl)) (E.1.2.2.2.2 _ (wm wl_5 (i := 19) rfl)) (E.1.2.2.2.2 _ (wm wl_5 (i := 20) rfl)) (Nat.le_of_ble_eq_true rfl) (Nat.le_of_ble_eq_true rfl) (Nat.zero_le _) (Nat.zero_le _) dX0_record_59 ?_
    refine fs_vi (y := (nI (min (k + 1) 6))) (min_if (by omega) (by omega)) ?_
    refine fs_put E hP hS (k := 26) 1 fc0 h_15 (by omega) (by decide) (wm wl_5 (i := 16) rfl) rfl rfl rfl rfl (Nat.le_of_ble_eq_true rfl) dX0_record_62 (fun ct_17 H locs q_18 hP hS => ?_)
    have h_19 : ct_17 26 = .inr (0, [.ref (fa g 27), .int (nI (min (k + 1) 6)), .int (nI (if n0 + 1 < 6 then n0 + 1 else 0))]) := by rw [q_18]; exact fu_eq _ _ _
    have h_20 : ct_17 27 = .inl (fcH g, 6, .inr (.inr (.inr (.inr f)))) := by rw [q_18]; exact (fu_ne (by omega)).trans h_16
    refine fs_vret E hr hlk hP hS dX0_record_65 ?_
    refine ⟨HistAt.put hn0 hk6 hG h_20 hff hsh hhs h_19 (HouseAt.keep p_16.1 (fun j h1 h2 => ((show ct_17 j = ct_13 j by rw [q_18]; exact fu_ne (by omega))).trans ((show ct_13 j = ct_2 j by rw [q_14]; exact fu_ne (by omega))))) (fun j h1 h2 => (fun j (_ : 28 ≤ j) (_ : j < 28 + 25 * n0 ∨ 28 + 25 * n0 + 25 ≤ j) => ((show ct_17 j = ct_13 j by rw [q_18]; exact fu_ne (by omega))).trans (((show ct_13 j = ct_2 j by rw [q_14]; exact fu_ne (by omega))).trans ((p_16.2 j (by omega))))) j h1 h2), fSame.tr2 (lo := 26) (hi := 178) (fSame.wide (p_16.2) (by omega) (by omega)) (show fSame 26 27 _ _ from (fSame.ap (fSame.ap fSame.rf q_14 (by omega) (by omega)) q_18 (by omega) (by omega))) (by omega) (by omega)⟩

