/-! the pad -/
def isD (c most : Nat) : Bool := decide (48 ≤ c ∧ c ≤ 48 + most)
def cbB (c a k : Nat) : Bool := if k = 4 then isD c 6 else isD c 5 && decide (k = 5 ∨ c ≠ a)
/-- whether the character at i can stand there -/
def csa (t : Nat → Nat) (i : Nat) : Bool := match i % 6 with
  | 0 => isD (t i) 5
  | 1 => decide (t i = 58)
  | 2 => isD (t i) 5
  | 3 => decide (kdn (t i) < 6)
  | 4 => cbB (t i) (t (i - 2)) (kdn (t (i - 1)))
  | _ => decide (t i = 44)
theorem csa_0 {t : Nat → Nat} {i : Nat} (h : i % 6 = 0) : csa t i = isD (t i) 5 := by unfold csa; rw [h]; rfl
theorem csa_1 {t : Nat → Nat} {i : Nat} (h : i % 6 = 1) : csa t i = decide (t i = 58) := by unfold csa; rw [h]; rfl
theorem csa_2 {t : Nat → Nat} {i : Nat} (h : i % 6 = 2) : csa t i = isD (t i) 5 := by unfold csa; rw [h]; rfl
theorem csa_3 {t : Nat → Nat} {i : Nat} (h : i % 6 = 3) : csa t i = decide (kdn (t i) < 6) := by unfold csa; rw [h]; rfl
theorem csa_4 {t : Nat → Nat} {i : Nat} (h : i % 6 = 4) : csa t i = cbB (t i) (t (i - 2)) (kdn (t (i - 1))) := by unfold csa; rw [h]; rfl
theorem csa_5 {t : Nat → Nat} {i : Nat} (h : i % 6 = 5) : csa t i = decide (t i = 44) := by unfold csa; rw [h]; rfl
theorem kdI_eq {c k : Nat} (hk : k < 6) : kdI c = nI k ↔ kdn c = k := by
  have := kdn_le c
  unfold kdI
  by_cases e : kdn c = 6
  · rw [if_pos e, e]
    exact ⟨fun z => absurd z.symm (nI_ne_m1 (by omega)), fun z => absurd z (by omega)⟩
  · rw [if_neg e]; exact nI_eq (by omega) (by omega)
/-- the least i below m with p, or m -/
def lst (p : Nat → Bool) : Nat → Nat
  | 0 => 0
  | m + 1 => if lst p m < m then lst p m else if p m = true then m else m + 1
theorem lst_hit {p : Nat → Bool} {m i : Nat} (hi : i < m) (h : p i = true) (hn : ∀ j, j < i → p j = false) : lst p m = i := by
  have key : ∀ m, (m ≤ i → lst p m = m) ∧ (i < m → lst p m = i) := by
    intro m
    induction m with
    | zero => exact ⟨fun _ => rfl, fun z => absurd z (by omega)⟩
    | succ m ih =>
      refine ⟨fun z => ?_, fun z => ?_⟩
      · unfold lst; rw [ih.1 (by omega), if_neg (by omega), hn m (by omega)]; rfl
      · unfold lst
        rcases Nat.lt_or_ge i m with q | q
        · rw [ih.2 q, if_pos q]
        · have e : i = m := by omega
          subst e
          rw [ih.1 (Nat.le_refl _), if_neg (by omega), if_pos h]
  exact (key m).2 hi
theorem lst_none {p : Nat → Bool} {m : Nat} (h : ∀ j, j < m → p j = false) : lst p m = m := by
  induction m with
  | zero => rfl
  | succ m ih => unfold lst; rw [ih (fun j hj => h j (by omega)), if_neg (by omega), h m (by omega)]; rfl
def ffF (t : Nat → Nat) (len : Nat) : Int32 := if lst (fun i => !csa t i) len < len then nI (lst (fun i => !csa t i) len) else if len % 6 = 5 then -6 else nI len
theorem ffF_hit {t : Nat → Nat} {len i : Nat} (hi : i < len) (h : csa t i = false) (hn : ∀ j, j < i → csa t j = true) : ffF t len = nI i := by
  have e : lst (fun i => !csa t i) len = i := lst_hit hi (by simp only [h]; rfl) (fun j hj => by simp only [hn j hj]; rfl)
  unfold ffF; rw [e, if_pos hi]
theorem ffF_end {t : Nat → Nat} {len : Nat} (hn : ∀ j, j < len → csa t j = true) : ffF t len = if len % 6 = 5 then -6 else nI len := by
  have e : lst (fun i => !csa t i) len = len := lst_none (fun j hj => by simp only [hn j hj]; rfl)
  unfold ffF; rw [e, if_neg (by omega)]
theorem ffF_ok {t : Nat → Nat} {len : Nat} (hl : len ≤ 60) (h : ffF t len = -6) : len % 6 = 5 ∧ ∀ j, j < len → csa t j = true := by
  have hll : lst (fun i => !csa t i) len ≤ len := by
    have : ∀ m, lst (fun i => !csa t i) m ≤ m := by
      intro m; induction m with
      | zero => exact Nat.le_refl _
      | succ m ih => unfold lst; split; omega; split <;> omega
    exact this len
  unfold ffF at h
  by_cases q : lst (fun i => !csa t i) len < len
  · rw [if_pos q] at h; exact absurd h (nI_ne6 (by omega))
  · rw [if_neg q] at h
    by_cases q2 : len % 6 = 5
    · refine ⟨q2, fun j hj => ?_⟩
      have key : ∀ m, lst (fun i => !csa t i) m = m → ∀ j, j < m → csa t j = true := by
        intro m
        induction m with
        | zero => intro _ j hj; omega
        | succ m ih =>
          intro e j hj
          unfold lst at e
          by_cases z : lst (fun i => !csa t i) m < m
          · rw [if_pos z] at e; omega
          · rw [if_neg z] at e
            have hm : lst (fun i => !csa t i) m = m := by
              have : ∀ m, lst (fun i => !csa t i) m ≤ m := by
                intro m; induction m with
                | zero => exact Nat.le_refl _
                | succ m ih => unfold lst; split; omega; split <;> omega
              have := this m; omega
            by_cases z2 : j = m
            · subst z2
              cases hc : csa t j with
              | true => rfl
              | false => rw [if_pos (by rw [hc]; rfl)] at e; omega
            · exact ih hm j (by omega)
      exact key len (by omega) j hj
    · rw [if_neg q2] at h; exact absurd h (nI_ne6 (by omega))
/-- a pad's cells -/
def PadAt (g : fG) (ct : Nat → va_E) (d : Nat) (t : Nat → Nat) (len : Nat) : Prop :=
  ct d = .inr (2, [.ref (fa g (d + 1)), .int (nI len)]) ∧ (∃ f : Nat → Int32, ct (d + 1) = .inl (fcC g, 60, .inl f) ∧ ∀ i, i < len → f i = nI (t i)) ∧ len ≤ 60 ∧ ∀ i, i < len → t i < 128
theorem PadAt.keep {g : fG} {ct ct1 : Nat → va_E} {d len : Nat} {t : Nat → Nat} (H : PadAt g ct d t len) (h0 : ct1 d = ct d) (h1 : ct1 (d + 1) = ct (d + 1)) : PadAt g ct1 d t len := by
  obtain ⟨a, ⟨f, b, c⟩, e⟩ := H
  exact ⟨h0.trans a, ⟨f, h1.trans b, c⟩, e⟩
theorem nchar {c : Nat} (h : c < 65536) : narrow .char (.int (nI c)) = .int (nI c) := (pk_charN h).1
theorem frem {a d : Nat} (ha : a < 2147483648) (h0 : 0 < d) (hd : d < 2147483648) : nI a - nI a / nI d * nI d = nI (a % d) := pk_rem ha h0 hd
/-- the j-th rumour of a text -/
def pdT (t : Nat → Nat) (j : Nat) : Nat := t (6 * j) - 48
def pdK (t : Nat → Nat) (j : Nat) : Nat := kdn (t (6 * j + 3))
def pdA (t : Nat → Nat) (j : Nat) : Nat := t (6 * j + 2) - 48
def pdB (t : Nat → Nat) (j : Nat) : Nat := t (6 * j + 4) - 48
theorem csa_at {t : Nat → Nat} {len j : Nat} (hl : len % 6 = 5) (h : ∀ i, i < len → csa t i = true) (hj : j < (len + 1) / 6) : (48 ≤ t (6 * j) ∧ t (6 * j) ≤ 53) ∧ t (6 * j + 1) = 58 ∧ (48 ≤ t (6 * j + 2) ∧ t (6 * j + 2) ≤ 53) ∧ kdn (t (6 * j + 3)) < 6 ∧ (48 ≤ t (6 * j + 4) ∧ t (6 * j + 4) ≤ 54 ∧ (kdn (t (6 * j + 3)) ≠ 4 → t (6 * j + 4) ≤ 53 ∧ (kdn (t (6 * j + 3)) = 5 ∨ t (6 * j + 4) ≠ t (6 * j + 2)))) := by
  have e : 6 * j + 5 ≤ len := by omega
  have h0 := h (6 * j) (by omega)
  have h1 := h (6 * j + 1) (by omega)
  have h2 := h (6 * j + 2) (by omega)
  have h3 := h (6 * j + 3) (by omega)
  have h4 := h (6 * j + 4) (by omega)
  rw [csa_0 (by omega)] at h0
  rw [csa_1 (by omega)] at h1
  rw [csa_2 (by omega)] at h2
  rw [csa_3 (by omega)] at h3
  rw [csa_4 (by omega)] at h4
  have a0 := of_decide_eq_true h0
  have a1 := of_decide_eq_true h1
  have a2 := of_decide_eq_true h2
  have a3 := of_decide_eq_true h3
  refine ⟨⟨a0.1, by omega⟩, a1, ⟨a2.1, by omega⟩, a3, ?_⟩
  rw [show 6 * j + 4 - 2 = 6 * j + 2 by omega, show 6 * j + 4 - 1 = 6 * j + 3 by omega] at h4
  unfold cbB at h4
  by_cases q : kdn (t (6 * j + 3)) = 4
  · rw [if_pos q] at h4
    have a4 := of_decide_eq_true h4
    exact ⟨a4.1, by omega, fun z => absurd q z⟩
  · rw [if_neg q, Bool.and_eq_true] at h4
    have a4 := of_decide_eq_true h4.1
    have a5 := of_decide_eq_true h4.2
    exact ⟨a4.1, by omega, fun _ => ⟨by omega, a5⟩⟩

set_option maxRecDepth 100000 in
set_option maxHeartbeats 4000000 in
theorem c_X2_empty (l : Launch) (g : fG) (N : Nat) (ct : Nat → va_E) (d : Nat) (t : Nat → Nat) (len : Nat) (hNd : d + 2 ≤ N) (hD : PadAt g ct d t len) : Met l yX2_empty (wsU yX2_empty cX2_empty 1 none) rX2_empty (fPre g N ct [.ref (fa g d)]) (fQv g N (fun ct1 => PadAt g ct1 d t 0 ∧ fSame d (d + 2) ct ct1)) 0 0 (fB g) := by
  refine fs_start (own := RX2) (lv0 := [(0, .ref (fa g d))]) (by decide) rfl (Nat.le_of_ble_eq_true rfl) rfl ?_
  intro p e s m args below meth c ls E hr hlk hnm hP hl hS
  have hx := E.1.1
  have hb := E.1.2.1
  obtain ⟨hd0, ⟨f, hd1, hf⟩, hl60, ht⟩ := id hD
  refine lv_aload_n hx hb dX2_empty_0 rfl (lv_at hl 0 rfl) ?_
  refine lv_iconst (v := (nI 0)) hx hb dX2_empty_1 (by decide) ?_
  refine fs_put E hP hS (k := d) 1 fc2 hd0 (by omega) (by decide) (wm wl_10 (i := 15) rfl) rfl rfl rfl rfl (Nat.le_of_ble_eq_true rfl) dX2_empty_2 (fun ct_1 H locs q_2 hP hS => ?_)
  have h_3 : ct_1 d = .inr (2, [.ref (fa g (d + 1)), .int (nI 0)]) := by rw [q_2]; exact fu_eq _ _ _
  have h_4 : ct_1 (d + 1) = .inl (fcC g, 60, .inl f) := by rw [q_2]; exact (fu_ne (by omega)).trans hd1
  refine fs_vret E hr hlk hP hS dX2_empty_5 ?_
  exact ⟨⟨h_3, ⟨f, h_4, fun i hi => absurd hi (by omega)⟩, by omega, fun i hi => absurd hi (by omega)⟩, (fSame.ap fSame.rf q_2 (by omega) (by omega))⟩

set_option maxRecDepth 100000 in
set_option maxHeartbeats 4000000 in
theorem c_X2_append (l : Launch) (g : fG) (N : Nat) (ct : Nat → va_E) (d : Nat) (t : Nat → Nat) (len : Nat) (c0 : Nat) (hc0 : c0 < 128) (hlen : len < 60) (hNd : d + 2 ≤ N) (hD : PadAt g ct d t len) : Met l yX2_append (wsU yX2_append cX2_append 2 none) rX2_append (fPre g N ct [.ref (fa g d), .int (nI c0)]) (fQv g N (fun ct1 => PadAt g ct1 d (fun i => if i = len then c0 else t i) (len + 1) ∧ fSame d (d + 2) ct ct1)) 0 0 (fB g) := by
  refine fs_start (own := RX2) (lv0 := [(0, .ref (fa g d)), (1, .int (nI c0))]) (by decide) rfl (Nat.le_of_ble_eq_true rfl) rfl ?_
  intro p e s m args below meth c ls E hr hlk hnm hP hl hS
  have hx := E.1.1
  have hb := E.1.2.1
  obtain ⟨hd0, ⟨f, hd1, hf⟩, hl60, ht⟩ := id hD
  refine lv_aload_n hx hb dX2_append_0 rfl (lv_at hl 0 rfl) ?_
  refine fs_get E hP (k := d) (v := .int (nI len)) 1 fc2 hd0 (by omega) (by decide) (wm wl_10 (i := 15) rfl) rfl dX2_append_1 ?_
  refine lv_if_lt (tgt := 39) hx hb dX2_append_4 (by decide) (fun c_4 => ?_) (fun c_4 => ?_)
  · rw [fz_ltN (by omega)] at c_4
    refine fs_vret E hr hlk hP hS dX2_append_39 ?_
    exfalso; omega
  · rw [fz_ltN (by omega)] at c_4
    refine lv_aload_n hx hb dX2_append_7 rfl (lv_at hl 0 rfl) ?_
    refine fs_get E hP (k := d) (v := .int (nI len)) 1 fc2 hd0 (by omega) (by decide) (wm wl_10 (i := 15) rfl) rfl dX2_append_8 ?_
    refine lv_aload_n hx hb dX2_append_11 rfl (lv_at hl 0 rfl) ?_
    refine fs_get E hP (k := d) (v := .ref (fa g (d + 1))) 0 fc2 hd0 (by omega) (by decide) (wm wl_3 (i := 18) rfl) rfl dX2_append_12 ?_
    refine fs_alenC E hP (k := (d + 1)) hd1 (by omega) dX2_append_15 ?_
    refine lv_icmp_ge (tgt := 39) hx hb dX2_append_16 (by decide) (fun c_16 => ?_) (fun c_16 => ?_)
    · rw [nI_leI (by omega) (by omega)] at c_16
      refine fs_vret E hr hlk hP hS dX2_append_39 ?_
      exfalso; omega
    · rw [nI_leI (by omega) (by omega)] at c_16
      refine lv_aload_n hx hb dX2_append_19 rfl (lv_at hl 0 rfl) ?_
      refine fs_get E hP (k := d) (v := .ref (fa g (d + 1))) 0 fc2 hd0 (by omega) (by decide) (wm wl_3 (i := 18) rfl) rfl dX2_append_20 ?_
      refine lv_aload_n hx hb dX2_append_23 rfl (lv_at hl 0 rfl) ?_
      refine fs_get E hP (k := d) (v := .int (nI len)) 1 fc2 hd0 (by omega) (by decide) (wm wl_10 (i := 15) rfl) rfl dX2_append_24 ?_
      refine lv_iload_n hx hb dX2_append_27 rfl (lv_at hl 1 rfl) ?_
      refine fs_cast E hP hS (k := (d + 1)) hd1 (by omega) (vp_in_nI (by omega) (by omega)) (nchar (by omega)) dX2_append_28 (fun ct_1 H locs q_2 hP hS => ?_)
      rw [nI_clamp (by omega)] at q_2
      have h_3 : ct_1 d = .inr (2, [.ref (fa g (d + 1)), .int (nI len)]) := by rw [q_2]; exact (fu_ne (by omega)).trans hd0
      have h_4 : ct_1 (d + 1) = .inl (fcC g, 60, .inl (upd f len (nI c0))) := by rw [q_2]; exact fu_eq _ _ _
      refine lv_aload_n hx hb dX2_append_29 rfl (lv_at hl 0 rfl) ?_
      refine lv_dup hx hb dX2_append_30 rfl ?_
      refine fs_get E hP (k := d) (v := .int (nI len)) 1 fc2 h_3 (by omega) (by decide) (wm wl_10 (i := 15) rfl) rfl dX2_append_31 ?_
      refine lv_iconst (v := (nI 1)) hx hb dX2_append_34 (by decide) ?_
      refine lv_iadd hx hb dX2_append_35 ?_
      refine fs_vi (y := (nI (len + 1))) (nI_1 _) ?_
      refine fs_put E hP hS (k := d) 1 fc2 h_3 (by omega) (by decide) (wm wl_10 (i := 15) rfl) rfl rfl rfl rfl (Nat.le_of_ble_eq_true rfl) dX2_append_36 (fun ct_5 H locs q_6 hP hS => ?_)
      have h_7 : ct_5 d = .inr (2, [.ref (fa g (d + 1)), .int (nI (len + 1))]) := by rw [q_6]; exact fu_eq _ _ _
      have h_8 : ct_5 (d + 1) = .inl (fcC g, 60, .inl (upd f len (nI c0))) := by rw [q_6]; exact (fu_ne (by omega)).trans h_4
      refine fs_vret E hr hlk hP hS dX2_append_39 ?_
      refine ⟨⟨h_7, ⟨_, h_8, fun i hi => ?_⟩, by omega, fun i hi => ?_⟩, (fSame.ap (fSame.ap fSame.rf q_2 (by omega) (by omega)) q_6 (by omega) (by omega))⟩
      · by_cases z : i = len
        · subst z; rw [upd_eq]; exact congrArg nI (if_pos rfl).symm
        · rw [upd_ne z, hf i (by omega)]; exact congrArg nI (if_neg z).symm
      · by_cases z : i = len
        · dsimp only; rw [if_pos z]; exact hc0
        · dsimp only; rw [if_neg z]; exact ht i (by omega)

set_option maxRecDepth 100000 in
set_option maxHeartbeats 4000000 in
theorem c_X2_characterAt (l : Launch) (g : fG) (N : Nat) (ct : Nat → va_E) (d : Nat) (t : Nat → Nat) (len : Nat) (i : Nat) (hi : i < len) (hNd : d + 2 ≤ N) (hD : PadAt g ct d t len) : Met l yX2_characterAt (wsU yX2_characterAt cX2_characterAt 2 (some .char)) rX2_characterAt (fPre g N ct [.ref (fa g d), .int (nI i)]) (fQpi (fun r => r = nI (t i))) 0 0 (fB g) := by
  refine fs_start (own := RX2) (lv0 := [(0, .ref (fa g d)), (1, .int (nI i))]) (by decide) rfl (Nat.le_of_ble_eq_true rfl) rfl ?_
  intro p e s m args below meth c ls E hr hlk hnm hP hl hS
  have hx := E.1.1
  have hb := E.1.2.1
  obtain ⟨hd0, ⟨f, hd1, hf⟩, hl60, ht⟩ := id hD
  have hti := ht i hi
  refine lv_iload_n hx hb dX2_characterAt_0 rfl (lv_at hl 1 rfl) ?_
  refine lv_if_lt (tgt := 30) hx hb dX2_characterAt_1 (by decide) (fun c_1 => ?_) (fun c_1 => ?_)
  · rw [fz_ltN (by omega)] at c_1
    refine lv_iconst (v := (nI 0)) hx hb dX2_characterAt_30 (by decide) ?_
    refine fs_pzret E hr (nchar (by omega)) hlk hS dX2_characterAt_31 ?_
    exfalso; omega
  · rw [fz_ltN (by omega)] at c_1
    refine lv_iload_n hx hb dX2_characterAt_4 rfl (lv_at hl 1 rfl) ?_
    refine lv_aload_n hx hb dX2_characterAt_5 rfl (lv_at hl 0 rfl) ?_
    refine fs_get E hP (k := d) (v := .int (nI len)) 1 fc2 hd0 (by omega) (by decide) (wm wl_10 (i := 15) rfl) rfl dX2_characterAt_6 ?_
    refine lv_icmp_ge (tgt := 30) hx hb dX2_characterAt_9 (by decide) (fun c_9 => ?_) (fun c_9 => ?_)
    · rw [nI_leI (by omega) (by omega)] at c_9
      refine lv_iconst (v := (nI 0)) hx hb dX2_characterAt_30 (by decide) ?_
      refine fs_pzret E hr (nchar (by omega)) hlk hS dX2_characterAt_31 ?_
      exfalso; omega
    · rw [nI_leI (by omega) (by omega)] at c_9
      refine lv_iload_n hx hb dX2_characterAt_12 rfl (lv_at hl 1 rfl) ?_
      refine lv_aload_n hx hb dX2_characterAt_13 rfl (lv_at hl 0 rfl) ?_
      refine fs_get E hP (k := d) (v := .ref (fa g (d + 1))) 0 fc2 hd0 (by omega) (by decide) (wm wl_3 (i := 18) rfl) rfl dX2_characterAt_14 ?_
      refine fs_alenC E hP (k := (d + 1)) hd1 (by omega) dX2_characterAt_17 ?_
      refine lv_icmp_ge (tgt := 30) hx hb dX2_characterAt_18 (by decide) (fun c_18 => ?_) (fun c_18 => ?_)
      · rw [nI_leI (by omega) (by omega)] at c_18
        refine lv_iconst (v := (nI 0)) hx hb dX2_characterAt_30 (by decide) ?_
        refine fs_pzret E hr (nchar (by omega)) hlk hS dX2_characterAt_31 ?_
        exfalso; omega
      · rw [nI_leI (by omega) (by omega)] at c_18
        refine lv_aload_n hx hb dX2_characterAt_21 rfl (lv_at hl 0 rfl) ?_
        refine fs_get E hP (k := d) (v := .ref (fa g (d + 1))) 0 fc2 hd0 (by omega) (by decide) (wm wl_3 (i := 18) rfl) rfl dX2_characterAt_22 ?_
        refine lv_iload_n hx hb dX2_characterAt_25 rfl (lv_at hl 1 rfl) ?_
        refine fs_cald E hP (k := (d + 1)) hd1 (by omega) (vp_in_nI (by omega) (by omega)) dX2_characterAt_26 ?_
        refine fs_vi (y := f i) (congrArg f (nI_clamp (by omega))) ?_
        refine fs_vi (hf i (by omega)) ?_
        refine lv_goto (tgt := 31) hx hb dX2_characterAt_27 (by decide) ?_
        refine fs_pzret E hr (nchar (by omega)) hlk hS dX2_characterAt_31 ?_
        rfl

set_option maxRecDepth 100000 in
set_option maxHeartbeats 4000000 in
theorem c_X2_isDigit (l : Launch) (g : fG) (N : Nat) (ct : Nat → va_E) (c0 mm : Nat) (hc0 : c0 < 128) (hm : mm < 10) : Met l yX2_isDigit (wsU yX2_isDigit cX2_isDigit 2 (some .boolean)) rX2_isDigit (fPre g N ct [.int (nI c0), .int (nI mm)]) (fQpi (fun r => r = bI (isD c0 mm = true))) 0 0 (fB g) := by
  refine fs_start (own := RX2) (lv0 := [(0, .int (nI c0)), (1, .int (nI mm))]) (by decide) rfl (Nat.le_of_ble_eq_true rfl) rfl ?_
  intro p e s m args below meth c ls E hr hlk hnm hP hl hS
  have hx := E.1.1
  have hb := E.1.2.1
  refine lv_iload_n hx hb dX2_isDigit_0 rfl (lv_at hl 0 rfl) ?_
  refine lv_bipush (v := (nI 48)) hx hb dX2_isDigit_1 (by decide) ?_
  refine lv_icmp_lt (tgt := 18) hx hb dX2_isDigit_3 (by decide) (fun c_3 => ?_) (fun c_3 => ?_)
  · rw [nI_ltI (by omega) (by omega)] at c_3
    refine lv_iconst (v := (nI 0)) hx hb dX2_isDigit_18 (by decide) ?_
    refine fs_pzret E hr rfl hlk hS dX2_isDigit_19 ?_
    exact bI_f (fun z => by have := of_decide_eq_true z; omega)
  · rw [nI_ltI (by omega) (by omega)] at c_3
    refine lv_iload_n hx hb dX2_isDigit_6 rfl (lv_at hl 0 rfl) ?_
    refine lv_bipush (v := (nI 48)) hx hb dX2_isDigit_7 (by decide) ?_
    refine lv_iload_n hx hb dX2_isDigit_9 rfl (lv_at hl 1 rfl) ?_
    refine lv_iadd hx hb dX2_isDigit_10 ?_
    refine fs_vi (y := (nI (48 + mm))) (nI_add _ _) ?_
    refine lv_icmp_gt (tgt := 18) hx hb dX2_isDigit_11 (by decide) (fun c_11 => ?_) (fun c_11 => ?_)
    · rw [nI_ltI (by omega) (by omega)] at c_11
      refine lv_iconst (v := (nI 0)) hx hb dX2_isDigit_18 (by decide) ?_
      refine fs_pzret E hr rfl hlk hS dX2_isDigit_19 ?_
      exact bI_f (fun z => by have := of_decide_eq_true z; omega)
    · rw [nI_ltI (by omega) (by omega)] at c_11
      refine lv_iconst (v := (nI 1)) hx hb dX2_isDigit_14 (by decide) ?_
      refine lv_goto (tgt := 19) hx hb dX2_isDigit_15 (by decide) ?_
      refine fs_pzret E hr rfl hlk hS dX2_isDigit_19 ?_
      exact bI_t (decide_eq_true (by omega))

set_option maxRecDepth 100000 in
set_option maxHeartbeats 4000000 in
theorem c_X2_canBeB (l : Launch) (g : fG) (N : Nat) (ct : Nat → va_E) (c0 a0 k0 : Nat) (hc0 : c0 < 128) (ha0 : a0 < 128) : Met l yX2_canBeB (wsU yX2_canBeB cX2_canBeB 3 (some .boolean)) rX2_canBeB (fPre g N ct [.int (nI c0), .int (nI a0), .int (kdI k0)]) (fQpi (fun r => r = bI (cbB c0 a0 (kdn k0) = true))) 0 0 (fB g) := by
  refine fs_start (own := RX2) (lv0 := [(0, .int (nI c0)), (1, .int (nI a0)), (2, .int (kdI k0))]) (by decide) rfl (Nat.le_of_ble_eq_true rfl) rfl ?_
  intro p e s m args below meth c ls E hr hlk hnm hP hl hS
  have hx := E.1.1
  have hb := E.1.2.1
  have hkl := kdn_le k0
  have hk5 := kdI_eq (c := k0) (k := 5) (by omega)
  have hk4i := kdI_eq (c := k0) (k := 4) (by omega)
  refine lv_iload_n hx hb dX2_canBeB_0 rfl (lv_at hl 2 rfl) ?_
  refine lv_iconst (v := (nI 4)) hx hb dX2_canBeB_1 (by decide) ?_
  refine lv_icmp_ne (tgt := 12) hx hb dX2_canBeB_2 (by decide) (fun c_2 => ?_) (fun c_2 => ?_)
  · have hk4 : ¬ kdn k0 = 4 := fun z => c_2 (hk4i.mpr z)
    refine lv_iload_n hx hb dX2_canBeB_12 rfl (lv_at hl 0 rfl) ?_
    refine lv_iconst (v := (nI 5)) hx hb dX2_canBeB_13 (by decide) ?_
    refine fs_pi (va_runS (As := [.int (nI c0), .int (nI 5)]) (rest := []) E.1 (c_X2_isDigit l g N ct c0 5 (by omega) (by omega)) (lk_RX2_27 E.1.2.2.2.2 ⟨Nat.le_of_ble_eq_true rfl, Nat.le_of_ble_eq_true rfl⟩) (fpreS E hP hS) rfl rfl hl.1 rfl (lv_room (Nat.le_of_ble_eq_true rfl)) dX2_canBeB_14 ⟨Nat.zero_le _, Nat.zero_le _⟩) hS (fun r_14 locs p_14 hS => ?_)
    refine lv_if_eq (tgt := 34) hx hb dX2_canBeB_17 (by decide) (fun c_17 => ?_) (fun c_17 => ?_)
    · have c_17 := (fb_0 p_14).mp c_17
      refine lv_iconst (v := (nI 0)) hx hb dX2_canBeB_34 (by decide) ?_
      refine fs_pzret E hr rfl hlk hS dX2_canBeB_35 ?_
      exact bI_f (by unfold cbB; rw [if_neg hk4, Bool.eq_false_iff.mpr c_17]; exact Bool.false_ne_true)
    · have c_17 := (fb_1 p_14).mp c_17
      refine lv_iload_n hx hb dX2_canBeB_20 rfl (lv_at hl 2 rfl) ?_
      refine lv_iconst (v := (nI 5)) hx hb dX2_canBeB_21 (by decide) ?_
      refine lv_icmp_eq (tgt := 30) hx hb dX2_canBeB_22 (by decide) (fun c_22 => ?_) (fun c_22 => ?_)
      · refine lv_iconst (v := (nI 1)) hx hb dX2_canBeB_30 (by decide) ?_
        refine lv_goto (tgt := 35) hx hb dX2_canBeB_31 (by decide) ?_
        refine fs_pzret E hr rfl hlk hS dX2_canBeB_35 ?_
        exact bI_t (by unfold cbB; rw [if_neg hk4, c_17, decide_eq_true (by first | exact Or.inl (hk5.mp c_22) | exact Or.inr c_27)]; rfl)
      · refine lv_iload_n hx hb dX2_canBeB_25 rfl (lv_at hl 0 rfl) ?_
        refine lv_iload_n hx hb dX2_canBeB_26 rfl (lv_at hl 1 rfl) ?_
        refine lv_icmp_eq (tgt := 34) hx hb dX2_canBeB_27 (by decide) (fun c_27 => ?_) (fun c_27 => ?_)
        · rw [nI_eq (by omega) (by omega)] at c_27
          refine lv_iconst (v := (nI 0)) hx hb dX2_canBeB_34 (by decide) ?_
          refine fs_pzret E hr rfl hlk hS dX2_canBeB_35 ?_
          exact bI_f (by unfold cbB; rw [if_neg hk4, decide_eq_false (fun z => z.elim (fun y => c_22 (hk5.mpr y)) (fun y => y c_27)), Bool.and_false]; exact Bool.false_ne_true)
        · rw [nI_eq (by omega) (by omega)] at c_27
          refine lv_iconst (v := (nI 1)) hx hb dX2_canBeB_30 (by decide) ?_
          refine lv_goto (tgt := 35) hx hb dX2_canBeB_31 (by decide) ?_
          refine fs_pzret E hr rfl hlk hS dX2_canBeB_35 ?_
          exact bI_t (by unfold cbB; rw [if_neg hk4, c_17, decide_eq_true (by first | exact Or.inl (hk5.mp c_22) | exact Or.inr c_27)]; rfl)
  · have hk4 : kdn k0 = 4 := hk4i.mp c_2
    refine lv_iload_n hx hb dX2_canBeB_5 rfl (lv_at hl 0 rfl) ?_
    refine lv_bipush (v := (nI 6)) hx hb dX2_canBeB_6 (by decide) ?_
    refine fs_pi (va_runS (As := [.int (nI c0), .int (nI 6)]) (rest := []) E.1 (c_X2_isDigit l g N ct c0 6 (by omega) (by omega)) (lk_RX2_27 E.1.2.2.2.2 ⟨Nat.le_of_ble_eq_true rfl, Nat.le_of_ble_eq_true rfl⟩) (fpreS E hP hS) rfl rfl hl.1 rfl (lv_room (Nat.le_of_ble_eq_true rfl)) dX2_canBeB_8 ⟨Nat.zero_le _, Nat.zero_le _⟩) hS (fun r_8 locs p_8 hS => ?_)
    refine fs_pzret E hr (fb_n p_8) hlk hS dX2_canBeB_11 ?_
    rw [p_8]; unfold cbB; rw [if_pos hk4]

set_option maxRecDepth 100000 in
set_option maxHeartbeats 4000000 in
theorem c_X2_canStandAt (l : Launch) (g : fG) (N : Nat) (ct : Nat → va_E) (d : Nat) (t : Nat → Nat) (len : Nat) (i : Nat) (hi : i < len) (hNd : d + 2 ≤ N) (hD : PadAt g ct d t len) : Met l yX2_canStandAt (wsU yX2_canStandAt cX2_canStandAt 3 (some .boolean)) rX2_canStandAt (fPre g N ct [.ref (fa g d), .int (nI i)]) (fQpi (fun r => r = bI (csa t i = true))) 0 0 (fB g) := by
  refine fs_start (own := RX2) (lv0 := [(0, .ref (fa g d)), (1, .int (nI i))]) (by decide) rfl (Nat.le_of_ble_eq_true rfl) rfl ?_
  intro p e s m args below meth c ls E hr hlk hnm hP hl hS
  have hx := E.1.1
  have hb := E.1.2.1
  obtain ⟨hd0, ⟨f, hd1, hf⟩, hl60, ht⟩ := id hD
  have hti := ht i hi
  have hm6 : i % 6 < 6 := Nat.mod_lt _ (by omega)
  refine lv_aload_n hx hb dX2_canStandAt_0 rfl (lv_at hl 0 rfl) ?_
  refine lv_iload_n hx hb dX2_canStandAt_1 rfl (lv_at hl 1 rfl) ?_
  refine fs_pi (va_runV (As := [.int (nI i)]) (rest := []) E.1 (c_X2_characterAt l g N ct d t len i (by omega) hNd hD) (lk_RX2_23 E.1.2.2.2.2 ⟨Nat.le_of_ble_eq_true rfl, Nat.le_of_ble_eq_true rfl⟩) (fpreV E hP hS fc2 hd0 (by omega)) rfl rfl hl.1 rfl (lv_room (Nat.le_of_ble_eq_true rfl)) dX2_canStandAt_2 ⟨Nat.zero_le _, Nat.zero_le _⟩) hS (fun r_2 locs p_2 hS => ?_)
  refine fs_vi (y := (nI (t i))) p_2 ?_
  refine lv_istore_n (lv' := [(2, .int (nI (t i))), (0, .ref (fa g d)), (1, .int (nI i))]) hx hb dX2_canStandAt_5 rfl hl (by decide) rfl (fun ls hl => ?_)
  refine lv_iload_n hx hb dX2_canStandAt_6 rfl (lv_at hl 2 rfl) ?_
  refine lv_bipush (v := (nI 6)) hx hb dX2_canStandAt_7 (by decide) ?_
  refine lv_irem hx hb dX2_canStandAt_9 (by decide) ?_
  refine fs_vi (y := (nI (i % 6))) (frem (by omega) (by omega) (by omega)) ?_
  rcases Decidable.em (i % 6 = 0) with k_10_0 | k_10_0
  · refine fs_vi (congrArg nI k_10_0) ?_
    refine lv_tableIn (off := 34) (tgt := 44) hx hb dX2_canStandAt_10 (by decide) (by decide) rfl (by decide) ?_
    refine lv_iload_n hx hb dX2_canStandAt_44 rfl (lv_at hl 0 rfl) ?_
    refine lv_iconst (v := (nI 5)) hx hb dX2_canStandAt_45 (by decide) ?_
    refine fs_pi (va_runS (As := [.int (nI (t i)), .int (nI 5)]) (rest := []) E.1 (c_X2_isDigit l g N ct (t i) 5 (by omega) (by omega)) (lk_RX2_27 E.1.2.2.2.2 ⟨Nat.le_of_ble_eq_true rfl, Nat.le_of_ble_eq_true rfl⟩) (fpreS E hP hS) rfl rfl hl.1 rfl (lv_room (Nat.le_of_ble_eq_true rfl)) dX2_canStandAt_46 ⟨Nat.zero_le _, Nat.zero_le _⟩) hS (fun r_46 locs p_46 hS => ?_)
    refine fs_pzret E hr (fb_n p_46) hlk hS dX2_canStandAt_49 ?_
    rw [p_46, csa_0 k_10_0]
  rcases Decidable.em (i % 6 = 1) with k_10_1 | k_10_1
  · refine fs_vi (congrArg nI k_10_1) ?_
    refine lv_tableIn (off := 40) (tgt := 50) hx hb dX2_canStandAt_10 (by decide) (by decide) rfl (by decide) ?_
    refine lv_iload_n hx hb dX2_canStandAt_50 rfl (lv_at hl 0 rfl) ?_
    refine lv_bipush (v := (nI 58)) hx hb dX2_canStandAt_51 (by decide) ?_
    refine lv_icmp_ne (tgt := 60) hx hb dX2_canStandAt_53 (by decide) (fun c_53 => ?_) (fun c_53 => ?_)
    · rw [nI_eq (by omega) (by omega)] at c_53
      refine lv_iconst (v := (nI 0)) hx hb dX2_canStandAt_60 (by decide) ?_
      refine fs_pzret E hr rfl hlk hS dX2_canStandAt_61 ?_
      exact bI_f (by rw [csa_1 k_10_1]; exact fun z => by have := of_decide_eq_true z; omega)
    · rw [nI_eq (by omega) (by omega)] at c_53
      refine lv_iconst (v := (nI 1)) hx hb dX2_canStandAt_56 (by decide) ?_
      refine lv_goto (tgt := 61) hx hb dX2_canStandAt_57 (by decide) ?_
      refine fs_pzret E hr rfl hlk hS dX2_canStandAt_61 ?_
      exact bI_t (by rw [csa_1 k_10_1]; exact decide_eq_true (by omega))
  rcases Decidable.em (i % 6 = 2) with k_10_2 | k_10_2
  · refine fs_vi (congrArg nI k_10_2) ?_
    refine lv_tableIn (off := 52) (tgt := 62) hx hb dX2_canStandAt_10 (by decide) (by decide) rfl (by decide) ?_
    refine lv_iload_n hx hb dX2_canStandAt_62 rfl (lv_at hl 0 rfl) ?_
    refine lv_iconst (v := (nI 5)) hx hb dX2_canStandAt_63 (by decide) ?_
    refine fs_pi (va_runS (As := [.int (nI (t i)), .int (nI 5)]) (rest := []) E.1 (c_X2_isDigit l g N ct (t i) 5 (by omega) (by omega)) (lk_RX2_27 E.1.2.2.2.2 ⟨Nat.le_of_ble_eq_true rfl, Nat.le_of_ble_eq_true rfl⟩) (fpreS E hP hS) rfl rfl hl.1 rfl (lv_room (Nat.le_of_ble_eq_true rfl)) dX2_canStandAt_64 ⟨Nat.zero_le _, Nat.zero_le _⟩) hS (fun r_64 locs p_64 hS => ?_)
    refine fs_pzret E hr (fb_n p_64) hlk hS dX2_canStandAt_67 ?_
    rw [p_64, csa_2 k_10_2]
  rcases Decidable.em (i % 6 = 3) with k_10_3 | k_10_3
  · refine fs_vi (congrArg nI k_10_3) ?_
    refine lv_tableIn (off := 58) (tgt := 68) hx hb dX2_canStandAt_10 (by decide) (by decide) rfl (by decide) ?_
    refine va_ldcS hx hb E.1.2.2.2.1 E.2.1.2.2.2.2 dX2_canStandAt_68 ?_
    refine lv_iload_n hx hb dX2_canStandAt_70 rfl (lv_at hl 0 rfl) ?_
    refine fs_pi (va_runV (As := [.int (nI (t i))]) (rest := []) E.1 (c_J0_indexOf_0f7a4 l g N ct (t i) (by omega)) (lk_RX2_33 E.1.2.2.2.2 ⟨Nat.le_of_ble_eq_true rfl, Nat.le_of_ble_eq_true rfl⟩) (fpreVS E hP hS) rfl rfl hl.1 rfl (lv_room (Nat.le_of_ble_eq_true rfl)) dX2_canStandAt_71 ⟨Nat.zero_le _, Nat.zero_le _⟩) hS (fun r_71 locs p_71 hS => ?_)
    refine fs_vi (y := (kdI (t i))) p_71 ?_
    refine lv_if_lt (tgt := 81) hx hb dX2_canStandAt_74 (by decide) (fun c_74 => ?_) (fun c_74 => ?_)
    · rw [kdI_lt] at c_74
      have hkl := kdn_le (t i)
      refine lv_iconst (v := (nI 0)) hx hb dX2_canStandAt_81 (by decide) ?_
      refine fs_pzret E hr rfl hlk hS dX2_canStandAt_82 ?_
      exact bI_f (by rw [csa_3 k_10_3]; exact fun z => by have := of_decide_eq_true z; omega)
    · rw [kdI_lt] at c_74
      have hkl := kdn_le (t i)
      refine lv_iconst (v := (nI 1)) hx hb dX2_canStandAt_77 (by decide) ?_
      refine lv_goto (tgt := 82) hx hb dX2_canStandAt_78 (by decide) ?_
      refine fs_pzret E hr rfl hlk hS dX2_canStandAt_82 ?_
      exact bI_t (by rw [csa_3 k_10_3]; exact decide_eq_true (by omega))
  rcases Decidable.em (i % 6 = 4) with k_10_4 | k_10_4
  · refine fs_vi (congrArg nI k_10_4) ?_
    refine lv_tableIn (off := 73) (tgt := 83) hx hb dX2_canStandAt_10 (by decide) (by decide) rfl (by decide) ?_
    refine lv_iload_n hx hb dX2_canStandAt_83 rfl (lv_at hl 0 rfl) ?_
    refine lv_aload_n hx hb dX2_canStandAt_84 rfl (lv_at hl 1 rfl) ?_
    refine lv_iload_n hx hb dX2_canStandAt_85 rfl (lv_at hl 2 rfl) ?_
    refine lv_iconst (v := (nI 2)) hx hb dX2_canStandAt_86 (by decide) ?_
    refine lv_isub hx hb dX2_canStandAt_87 ?_
    refine fs_vi (y := (nI (i - 2))) (pk_sub (by omega)) ?_
    refine fs_pi (va_runV (As := [.int (nI (i - 2))]) (rest := [.int (nI (t i))]) E.1 (c_X2_characterAt l g N ct d t len (i - 2) (by omega) hNd hD) (lk_RX2_23 E.1.2.2.2.2 ⟨Nat.le_of_ble_eq_true rfl, Nat.le_of_ble_eq_true rfl⟩) (fpreV E hP hS fc2 hd0 (by omega)) rfl rfl hl.1 rfl (lv_room (Nat.le_of_ble_eq_true rfl)) dX2_canStandAt_88 ⟨Nat.zero_le _, Nat.zero_le _⟩) hS (fun r_88 locs p_88 hS => ?_)
    refine fs_vi (y := (nI (t (i - 2)))) p_88 ?_
    have hti2 := ht (i - 2) (by omega)
    refine va_ldcS hx hb E.1.2.2.2.1 E.2.1.2.2.2.2 dX2_canStandAt_91 ?_
    refine lv_aload_n hx hb dX2_canStandAt_93 rfl (lv_at hl 1 rfl) ?_
    refine lv_iload_n hx hb dX2_canStandAt_94 rfl (lv_at hl 2 rfl) ?_
    refine lv_iconst (v := (nI 1)) hx hb dX2_canStandAt_95 (by decide) ?_
    refine lv_isub hx hb dX2_canStandAt_96 ?_
    refine fs_vi (y := (nI (i - 1))) (pk_sub (by omega)) ?_
    refine fs_pi (va_runV (As := [.int (nI (i - 1))]) (rest := [.ref (fk g), .int (nI (t (i - 2))), .int (nI (t i))]) E.1 (c_X2_characterAt l g N ct d t len (i - 1) (by omega) hNd hD) (lk_RX2_23 E.1.2.2.2.2 ⟨Nat.le_of_ble_eq_true rfl, Nat.le_of_ble_eq_true rfl⟩) (fpreV E hP hS fc2 hd0 (by omega)) rfl rfl hl.1 rfl (lv_room (Nat.le_of_ble_eq_true rfl)) dX2_canStandAt_97 ⟨Nat.zero_le _, Nat.zero_le _⟩) hS (fun r_97 locs p_97 hS => ?_)
    refine fs_vi (y := (nI (t (i - 1)))) p_97 ?_
    have hti1 := ht (i - 1) (by omega)
    refine fs_pi (va_runV (As := [.int (nI (t (i - 1)))]) (rest := [.int (nI (t (i - 2))), .int (nI (t i))]) E.1 (c_J0_indexOf_0f7a4 l g N ct (t (i - 1)) (by omega)) (lk_RX2_33 E.1.2.2.2.2 ⟨Nat.le_of_ble_eq_true rfl, Nat.le_of_ble_eq_true rfl⟩) (fpreVS E hP hS) rfl rfl hl.1 rfl (lv_room (Nat.le_of_ble_eq_true rfl)) dX2_canStandAt_100 ⟨Nat.zero_le _, Nat.zero_le _⟩) hS (fun r_100 locs p_100 hS => ?_)
    refine fs_vi (y := (kdI (t (i - 1)))) p_100 ?_
    refine fs_pi (va_runS (As := [.int (nI (t i)), .int (nI (t (i - 2))), .int (kdI (t (i - 1)))]) (rest := []) E.1 (c_X2_canBeB l g N ct (t i) (t (i - 2)) (t (i - 1)) (by omega) (by omega)) (lk_RX2_39 E.1.2.2.2.2 ⟨Nat.le_of_ble_eq_true rfl, Nat.le_of_ble_eq_true rfl⟩) (fpreS E hP hS) rfl rfl hl.1 rfl (lv_room (Nat.le_of_ble_eq_true rfl)) dX2_canStandAt_103 ⟨Nat.zero_le _, Nat.zero_le _⟩) hS (fun r_103 locs p_103 hS => ?_)
    refine fs_pzret E hr (fb_n p_103) hlk hS dX2_canStandAt_106 ?_
    rw [p_103, csa_4 k_10_4]
  refine lv_tableOut (tgt := 107) hx hb dX2_canStandAt_10 (Or.inr (by rw [nI_toInt (by omega)]; omega)) (by decide) ?_
  refine lv_iload_n hx hb dX2_canStandAt_107 rfl (lv_at hl 0 rfl) ?_
  refine lv_bipush (v := (nI 44)) hx hb dX2_canStandAt_108 (by decide) ?_
  refine lv_icmp_ne (tgt := 117) hx hb dX2_canStandAt_110 (by decide) (fun c_110 => ?_) (fun c_110 => ?_)
  · rw [nI_eq (by omega) (by omega)] at c_110
    refine lv_iconst (v := (nI 0)) hx hb dX2_canStandAt_117 (by decide) ?_
    refine fs_pzret E hr rfl hlk hS dX2_canStandAt_118 ?_
    exact bI_f (by rw [csa_5 (by omega)]; exact fun z => by have := of_decide_eq_true z; omega)
  · rw [nI_eq (by omega) (by omega)] at c_110
    refine lv_iconst (v := (nI 1)) hx hb dX2_canStandAt_113 (by decide) ?_
    refine lv_goto (tgt := 118) hx hb dX2_canStandAt_114 (by decide) ?_
    refine fs_pzret E hr rfl hlk hS dX2_canStandAt_118 ?_
    exact bI_t (by rw [csa_5 (by omega)]; exact decide_eq_true (by omega))

set_option maxRecDepth 100000 in
set_option maxHeartbeats 4000000 in
theorem c_X2_firstFault (l : Launch) (g : fG) (N : Nat) (ct : Nat → va_E) (d : Nat) (t : Nat → Nat) (len : Nat) (hNd : d + 2 ≤ N) (hD : PadAt g ct d t len) : Met l yX2_firstFault (wsU yX2_firstFault cX2_firstFault 2 (some .int)) rX2_firstFault (fPre g N ct [.ref (fa g d)]) (fQpi (fun r => r = ffF t len)) 0 0 (fB g) := by
  refine fs_start (own := RX2) (lv0 := [(0, .ref (fa g d))]) (by decide) rfl (Nat.le_of_ble_eq_true rfl) rfl ?_
  intro p e s m args below meth c ls E hr hlk hnm hP hl hS
  have hx := E.1.1
  have hb := E.1.2.1
  obtain ⟨hd0, ⟨f, hd1, hf⟩, hl60, ht⟩ := id hD
  refine lv_iconst (v := (nI 0)) hx hb dX2_firstFault_0 (by decide) ?_
  refine lv_istore_n (lv' := [(1, .int (nI 0)), (0, .ref (fa g d))]) hx hb dX2_firstFault_1 rfl hl (by decide) rfl (fun ls hl => ?_)
  refine fs_indP (g := g) (St := Nat) (fun (i : Nat) (ls : Array Slot) => lv_has ls 2 [(0, .ref (fa g d)), (1, .int (nI i))] ∧ i ≤ len ∧ ∀ j, j < i → csa t j = true) (fun (i : Nat) => len - i) ?_ 0 ls _ ⟨lv_sub hl [1, 0] rfl, Nat.zero_le _, fun j hj => absurd hj (by omega)⟩ hS
  clear hl hS
  intro st ls locs hI hS ih
  obtain ⟨i, rfl⟩ : ∃ z, z = st := ⟨_, rfl⟩
  obtain ⟨hl, hI⟩ := hI
  have hI1 := hI.1
  refine lv_iload_n hx hb dX2_firstFault_2 rfl (lv_at hl 1 rfl) ?_
  refine lv_aload_n hx hb dX2_firstFault_3 rfl (lv_at hl 0 rfl) ?_
  refine fs_get E hP (k := d) (v := .int (nI len)) 1 fc2 hd0 (by omega) (by decide) (wm wl_10 (i := 15) rfl) rfl dX2_firstFault_4 ?_
  refine lv_icmp_ge (tgt := 26) hx hb dX2_firstFault_7 (by decide) (fun c_7 => ?_) (fun c_7 => ?_)
  · rw [nI_leI (by omega) (by omega)] at c_7
    refine lv_aload_n hx hb dX2_firstFault_26 rfl (lv_at hl 0 rfl) ?_
    refine fs_get E hP (k := d) (v := .int (nI len)) 1 fc2 hd0 (by omega) (by decide) (wm wl_10 (i := 15) rfl) rfl dX2_firstFault_27 ?_
    refine lv_bipush (v := (nI 6)) hx hb dX2_firstFault_30 (by decide) ?_
    refine lv_irem hx hb dX2_firstFault_32 (by decide) ?_
    refine fs_vi (y := (nI (len % 6))) (frem (by omega) (by omega) (by omega)) ?_
    refine lv_iconst (v := (nI 5)) hx hb dX2_firstFault_33 (by decide) ?_
    refine lv_icmp_ne (tgt := 42) hx hb dX2_firstFault_34 (by decide) (fun c_34 => ?_) (fun c_34 => ?_)
    · rw [nI_eq (by omega) (by omega)] at c_34
      refine lv_aload_n hx hb dX2_firstFault_42 rfl (lv_at hl 0 rfl) ?_
      refine fs_get E hP (k := d) (v := .int (nI len)) 1 fc2 hd0 (by omega) (by decide) (wm wl_10 (i := 15) rfl) rfl dX2_firstFault_43 ?_
      refine fs_piret E hr hlk hS dX2_firstFault_46 ?_
      rw [ffF_end (fun j hj => hI.2 j (by omega)), if_neg (by omega)]
    · rw [nI_eq (by omega) (by omega)] at c_34
      refine lv_bipush (v := (-6)) hx hb dX2_firstFault_37 (by decide) ?_
      refine lv_goto (tgt := 46) hx hb dX2_firstFault_39 (by decide) ?_
      refine fs_piret E hr hlk hS dX2_firstFault_46 ?_
      rw [ffF_end (fun j hj => hI.2 j (by omega)), if_pos (by omega)]
  · rw [nI_leI (by omega) (by omega)] at c_7
    refine lv_aload_n hx hb dX2_firstFault_10 rfl (lv_at hl 0 rfl) ?_
    refine lv_iload_n hx hb dX2_firstFault_11 rfl (lv_at hl 1 rfl) ?_
    refine fs_pi (va_runV (As := [.int (nI i)]) (rest := []) E.1 (c_X2_canStandAt l g N ct d t len i (by omega) hNd hD) (lk_RX2_19 E.1.2.2.2.2 ⟨Nat.le_of_ble_eq_true rfl, Nat.le_of_ble_eq_true rfl⟩) (fpreV E hP hS fc2 hd0 (by omega)) rfl rfl hl.1 rfl (lv_room (Nat.le_of_ble_eq_true rfl)) dX2_firstFault_12 ⟨Nat.zero_le _, Nat.zero_le _⟩) hS (fun r_12 locs p_12 hS => ?_)
    refine lv_if_ne (tgt := 20) hx hb dX2_firstFault_15 (by decide) (fun c_15 => ?_) (fun c_15 => ?_)
    · have c_15 := (fb_1 p_12).mp c_15
      refine lv_iinc (v := (nI (i + 1))) (lv' := [(1, .int (nI (i + 1))), (0, .ref (fa g d))]) hx hb dX2_firstFault_20 hl (k := 1) rfl (nI_1 _) (by decide) rfl (fun ls hl => ?_)
      refine lv_goto (tgt := 2) hx hb dX2_firstFault_23 (by decide) ?_
      exact ih (i + 1) ls _ (by (try dsimp only); omega) ⟨lv_sub hl [1, 0] rfl, by omega, fun j hj => (Nat.lt_or_ge j i).elim (fun z => hI.2 j z) (fun z => by rw [show j = i by omega]; exact c_15)⟩ hS
    · have c_15 := (fb_0 p_12).mp c_15
      refine lv_iload_n hx hb dX2_firstFault_18 rfl (lv_at hl 1 rfl) ?_
      refine fs_piret E hr hlk hS dX2_firstFault_19 ?_
      exact (ffF_hit (by omega) (Bool.eq_false_iff.mpr c_15) hI.2).symm

set_option maxRecDepth 100000 in
set_option maxHeartbeats 4000000 in
theorem c_X2_rumours (l : Launch) (g : fG) (N : Nat) (ct : Nat → va_E) (d : Nat) (t : Nat → Nat) (len : Nat) (hNd : d + 2 ≤ N) (hD : PadAt g ct d t len) : Met l yX2_rumours (wsU yX2_rumours cX2_rumours 1 (some .int)) rX2_rumours (fPre g N ct [.ref (fa g d)]) (fQpi (fun r => r = nI ((len + 1) / 6))) 0 0 (fB g) := by
  refine fs_start (own := RX2) (lv0 := [(0, .ref (fa g d))]) (by decide) rfl (Nat.le_of_ble_eq_true rfl) rfl ?_
  intro p e s m args below meth c ls E hr hlk hnm hP hl hS
  have hx := E.1.1
  have hb := E.1.2.1
  obtain ⟨hd0, ⟨f, hd1, hf⟩, hl60, ht⟩ := id hD
  refine lv_aload_n hx hb dX2_rumours_0 rfl (lv_at hl 0 rfl) ?_
  refine fs_get E hP (k := d) (v := .int (nI len)) 1 fc2 hd0 (by omega) (by decide) (wm wl_10 (i := 15) rfl) rfl dX2_rumours_1 ?_
  refine lv_iconst (v := (nI 1)) hx hb dX2_rumours_4 (by decide) ?_
  refine lv_iadd hx hb dX2_rumours_5 ?_
  refine fs_vi (y := (nI (len + 1))) (nI_1 _) ?_
  refine lv_bipush (v := (nI 6)) hx hb dX2_rumours_6 (by decide) ?_
  refine lv_idiv hx hb dX2_rumours_8 (by decide) ?_
  refine fs_vi (y := (nI ((len + 1) / 6))) (pk_div (by omega) (by omega) (by omega)) ?_
  refine fs_piret E hr hlk hS dX2_rumours_9 ?_
  rfl

set_option maxRecDepth 100000 in
set_option maxHeartbeats 4000000 in
theorem c_X2_digitAt (l : Launch) (g : fG) (N : Nat) (ct : Nat → va_E) (d : Nat) (t : Nat → Nat) (len : Nat) (i : Nat) (hi : i < len) (h48 : 48 ≤ t i) (hNd : d + 2 ≤ N) (hD : PadAt g ct d t len) : Met l yX2_digitAt (wsU yX2_digitAt cX2_digitAt 2 (some .int)) rX2_digitAt (fPre g N ct [.ref (fa g d), .int (nI i)]) (fQpi (fun r => r = nI (t i - 48))) 0 0 (fB g) := by
  refine fs_start (own := RX2) (lv0 := [(0, .ref (fa g d)), (1, .int (nI i))]) (by decide) rfl (Nat.le_of_ble_eq_true rfl) rfl ?_
  intro p e s m args below meth c ls E hr hlk hnm hP hl hS
  have hx := E.1.1
  have hb := E.1.2.1
  obtain ⟨hd0, ⟨f, hd1, hf⟩, hl60, ht⟩ := id hD
  have hti := ht i hi
  refine lv_aload_n hx hb dX2_digitAt_0 rfl (lv_at hl 0 rfl) ?_
  refine lv_iload_n hx hb dX2_digitAt_1 rfl (lv_at hl 1 rfl) ?_
  refine fs_pi (va_runV (As := [.int (nI i)]) (rest := []) E.1 (c_X2_characterAt l g N ct d t len i (by omega) hNd hD) (lk_RX2_23 E.1.2.2.2.2 ⟨Nat.le_of_ble_eq_true rfl, Nat.le_of_ble_eq_true rfl⟩) (fpreV E hP hS fc2 hd0 (by omega)) rfl rfl hl.1 rfl (lv_room (Nat.le_of_ble_eq_true rfl)) dX2_digitAt_2 ⟨Nat.zero_le _, Nat.zero_le _⟩) hS (fun r_2 locs p_2 hS => ?_)
  refine fs_vi (y := (nI (t i))) p_2 ?_
  refine lv_bipush (v := (nI 48)) hx hb dX2_digitAt_5 (by decide) ?_
  refine lv_isub hx hb dX2_digitAt_7 ?_
  refine fs_vi (y := (nI (t i - 48))) (pk_sub (by omega)) ?_
  refine fs_piret E hr hlk hS dX2_digitAt_8 ?_
  rfl

set_option maxRecDepth 100000 in
set_option maxHeartbeats 4000000 in
theorem c_X2_tellerOf (l : Launch) (g : fG) (N : Nat) (ct : Nat → va_E) (d : Nat) (t : Nat → Nat) (len : Nat) (j : Nat) (hj : j < (len + 1) / 6) (hl5 : len % 6 = 5) (hcs : ∀ i, i < len → csa t i = true) (hNd : d + 2 ≤ N) (hD : PadAt g ct d t len) : Met l yX2_tellerOf (wsU yX2_tellerOf cX2_tellerOf 2 (some .int)) rX2_tellerOf (fPre g N ct [.ref (fa g d), .int (nI j)]) (fQpi (fun r => r = nI (pdT t j))) 0 0 (fB g) := by
  refine fs_start (own := RX2) (lv0 := [(0, .ref (fa g d)), (1, .int (nI j))]) (by decide) rfl (Nat.le_of_ble_eq_true rfl) rfl ?_
  intro p e s m args below meth c ls E hr hlk hnm hP hl hS
  have hx := E.1.1
  have hb := E.1.2.1
  obtain ⟨hd0, ⟨f, hd1, hf⟩, hl60, ht⟩ := id hD
  have hca := csa_at hl5 hcs hj
  refine lv_aload_n hx hb dX2_tellerOf_0 rfl (lv_at hl 0 rfl) ?_
  refine lv_iload_n hx hb dX2_tellerOf_1 rfl (lv_at hl 1 rfl) ?_
  refine lv_bipush (v := (nI 6)) hx hb dX2_tellerOf_2 (by decide) ?_
  refine lv_imul hx hb dX2_tellerOf_4 ?_
  refine fs_vi (y := (nI (j * 6))) (pk_mul _ _) ?_
  refine lv_iconst (v := (nI 0)) hx hb dX2_tellerOf_5 (by decide) ?_
  refine lv_iadd hx hb dX2_tellerOf_6 ?_
  refine fs_vi (y := (nI (6 * j + 0))) ((nI_add _ _).trans (congrArg nI (by omega))) ?_
  refine fs_pi (va_runV (As := [.int (nI (6 * j + 0))]) (rest := []) E.1 (c_X2_digitAt l g N ct d t len (6 * j + 0) (by omega) (by show 48 ≤ t (6 * j); omega) hNd hD) (lk_RX2_43 E.1.2.2.2.2 ⟨Nat.le_of_ble_eq_true rfl, Nat.le_of_ble_eq_true rfl⟩) (fpreV E hP hS fc2 hd0 (by omega)) rfl rfl hl.1 rfl (lv_room (Nat.le_of_ble_eq_true rfl)) dX2_tellerOf_7 ⟨Nat.zero_le _, Nat.zero_le _⟩) hS (fun r_7 locs p_7 hS => ?_)
  refine fs_piret E hr hlk hS dX2_tellerOf_10 ?_
  exact p_7

set_option maxRecDepth 100000 in
set_option maxHeartbeats 4000000 in
theorem c_X2_aOf (l : Launch) (g : fG) (N : Nat) (ct : Nat → va_E) (d : Nat) (t : Nat → Nat) (len : Nat) (j : Nat) (hj : j < (len + 1) / 6) (hl5 : len % 6 = 5) (hcs : ∀ i, i < len → csa t i = true) (hNd : d + 2 ≤ N) (hD : PadAt g ct d t len) : Met l yX2_aOf (wsU yX2_aOf cX2_aOf 2 (some .int)) rX2_aOf (fPre g N ct [.ref (fa g d), .int (nI j)]) (fQpi (fun r => r = nI (pdA t j))) 0 0 (fB g) := by
  refine fs_start (own := RX2) (lv0 := [(0, .ref (fa g d)), (1, .int (nI j))]) (by decide) rfl (Nat.le_of_ble_eq_true rfl) rfl ?_
  intro p e s m args below meth c ls E hr hlk hnm hP hl hS
  have hx := E.1.1
  have hb := E.1.2.1
  obtain ⟨hd0, ⟨f, hd1, hf⟩, hl60, ht⟩ := id hD
  have hca := csa_at hl5 hcs hj
  refine lv_aload_n hx hb dX2_aOf_0 rfl (lv_at hl 0 rfl) ?_
  refine lv_iload_n hx hb dX2_aOf_1 rfl (lv_at hl 1 rfl) ?_
  refine lv_bipush (v := (nI 6)) hx hb dX2_aOf_2 (by decide) ?_
  refine lv_imul hx hb dX2_aOf_4 ?_
  refine fs_vi (y := (nI (j * 6))) (pk_mul _ _) ?_
  refine lv_iconst (v := (nI 2)) hx hb dX2_aOf_5 (by decide) ?_
  refine lv_iadd hx hb dX2_aOf_6 ?_
  refine fs_vi (y := (nI (6 * j + 2))) ((nI_add _ _).trans (congrArg nI (by omega))) ?_
  refine fs_pi (va_runV (As := [.int (nI (6 * j + 2))]) (rest := []) E.1 (c_X2_digitAt l g N ct d t len (6 * j + 2) (by omega) (by skip; omega) hNd hD) (lk_RX2_43 E.1.2.2.2.2 ⟨Nat.le_of_ble_eq_true rfl, Nat.le_of_ble_eq_true rfl⟩) (fpreV E hP hS fc2 hd0 (by omega)) rfl rfl hl.1 rfl (lv_room (Nat.le_of_ble_eq_true rfl)) dX2_aOf_7 ⟨Nat.zero_le _, Nat.zero_le _⟩) hS (fun r_7 locs p_7 hS => ?_)
  refine fs_piret E hr hlk hS dX2_aOf_10 ?_
  exact p_7

set_option maxRecDepth 100000 in
set_option maxHeartbeats 4000000 in
theorem c_X2_bOf (l : Launch) (g : fG) (N : Nat) (ct : Nat → va_E) (d : Nat) (t : Nat → Nat) (len : Nat) (j : Nat) (hj : j < (len + 1) / 6) (hl5 : len % 6 = 5) (hcs : ∀ i, i < len → csa t i = true) (hNd : d + 2 ≤ N) (hD : PadAt g ct d t len) : Met l yX2_bOf (wsU yX2_bOf cX2_bOf 2 (some .int)) rX2_bOf (fPre g N ct [.ref (fa g d), .int (nI j)]) (fQpi (fun r => r = nI (pdB t j))) 0 0 (fB g) := by
  refine fs_start (own := RX2) (lv0 := [(0, .ref (fa g d)), (1, .int (nI j))]) (by decide) rfl (Nat.le_of_ble_eq_true rfl) rfl ?_
  intro p e s m args below meth c ls E hr hlk hnm hP hl hS
  have hx := E.1.1
  have hb := E.1.2.1
  obtain ⟨hd0, ⟨f, hd1, hf⟩, hl60, ht⟩ := id hD
  have hca := csa_at hl5 hcs hj
  refine lv_aload_n hx hb dX2_bOf_0 rfl (lv_at hl 0 rfl) ?_
  refine lv_iload_n hx hb dX2_bOf_1 rfl (lv_at hl 1 rfl) ?_
  refine lv_bipush (v := (nI 6)) hx hb dX2_bOf_2 (by decide) ?_
  refine lv_imul hx hb dX2_bOf_4 ?_
  refine fs_vi (y := (nI (j * 6))) (pk_mul _ _) ?_
  refine lv_iconst (v := (nI 4)) hx hb dX2_bOf_5 (by decide) ?_
  refine lv_iadd hx hb dX2_bOf_6 ?_
  refine fs_vi (y := (nI (6 * j + 4))) ((nI_add _ _).trans (congrArg nI (by omega))) ?_
  refine fs_pi (va_runV (As := [.int (nI (6 * j + 4))]) (rest := []) E.1 (c_X2_digitAt l g N ct d t len (6 * j + 4) (by omega) (by skip; omega) hNd hD) (lk_RX2_43 E.1.2.2.2.2 ⟨Nat.le_of_ble_eq_true rfl, Nat.le_of_ble_eq_true rfl⟩) (fpreV E hP hS fc2 hd0 (by omega)) rfl rfl hl.1 rfl (lv_room (Nat.le_of_ble_eq_true rfl)) dX2_bOf_7 ⟨Nat.zero_le _, Nat.zero_le _⟩) hS (fun r_7 locs p_7 hS => ?_)
  refine fs_piret E hr hlk hS dX2_bOf_10 ?_
  exact p_7

set_option maxRecDepth 100000 in
set_option maxHeartbeats 4000000 in
theorem c_X2_kindOf (l : Launch) (g : fG) (N : Nat) (ct : Nat → va_E) (d : Nat) (t : Nat → Nat) (len : Nat) (j : Nat) (hj : j < (len + 1) / 6) (hl5 : len % 6 = 5) (hcs : ∀ i, i < len → csa t i = true) (hNd : d + 2 ≤ N) (hD : PadAt g ct d t len) : Met l yX2_kindOf (wsU yX2_kindOf cX2_kindOf 2 (some .int)) rX2_kindOf (fPre g N ct [.ref (fa g d), .int (nI j)]) (fQpi (fun r => r = nI (pdK t j))) 0 0 (fB g) := by
  refine fs_start (own := RX2) (lv0 := [(0, .ref (fa g d)), (1, .int (nI j))]) (by decide) rfl (Nat.le_of_ble_eq_true rfl) rfl ?_
  intro p e s m args below meth c ls E hr hlk hnm hP hl hS
  have hx := E.1.1
  have hb := E.1.2.1
  obtain ⟨hd0, ⟨f, hd1, hf⟩, hl60, ht⟩ := id hD
  have hca := csa_at hl5 hcs hj
  have htj := ht (6 * j + 3) (by omega)
  refine va_ldcS hx hb E.1.2.2.2.1 E.2.1.2.2.2.2 dX2_kindOf_0 ?_
  refine lv_aload_n hx hb dX2_kindOf_2 rfl (lv_at hl 0 rfl) ?_
  refine lv_iload_n hx hb dX2_kindOf_3 rfl (lv_at hl 1 rfl) ?_
  refine lv_bipush (v := (nI 6)) hx hb dX2_kindOf_4 (by decide) ?_
  refine lv_imul hx hb dX2_kindOf_6 ?_
  refine fs_vi (y := (nI (j * 6))) (pk_mul _ _) ?_
  refine lv_iconst (v := (nI 3)) hx hb dX2_kindOf_7 (by decide) ?_
  refine lv_iadd hx hb dX2_kindOf_8 ?_
  refine fs_vi (y := (nI (6 * j + 3))) ((nI_add _ _).trans (congrArg nI (by omega))) ?_
  refine fs_pi (va_runV (As := [.int (nI (6 * j + 3))]) (rest := [.ref (fk g)]) E.1 (c_X2_characterAt l g N ct d t len (6 * j + 3) (by omega) hNd hD) (lk_RX2_23 E.1.2.2.2.2 ⟨Nat.le_of_ble_eq_true rfl, Nat.le_of_ble_eq_true rfl⟩) (fpreV E hP hS fc2 hd0 (by omega)) rfl rfl hl.1 rfl (lv_room (Nat.le_of_ble_eq_true rfl)) dX2_kindOf_9 ⟨Nat.zero_le _, Nat.zero_le _⟩) hS (fun r_9 locs p_9 hS => ?_)
  refine fs_vi (y := (nI (t (6 * j + 3)))) p_9 ?_
  refine fs_pi (va_runV (As := [.int (nI (t (6 * j + 3)))]) (rest := []) E.1 (c_J0_indexOf_0f7a4 l g N ct (t (6 * j + 3)) (by omega)) (lk_RX2_33 E.1.2.2.2.2 ⟨Nat.le_of_ble_eq_true rfl, Nat.le_of_ble_eq_true rfl⟩) (fpreVS E hP hS) rfl rfl hl.1 rfl (lv_room (Nat.le_of_ble_eq_true rfl)) dX2_kindOf_12 ⟨Nat.zero_le _, Nat.zero_le _⟩) hS (fun r_12 locs p_12 hS => ?_)
  refine fs_piret E hr hlk hS dX2_kindOf_15 ?_
  rw [p_12]; unfold kdI pdK; rw [if_neg (by omega)]
