/-! the pad -/
def isD (c most : Nat) : Bool := decide (48 ≤ c ∧ c ≤ 48 + most)
def cbB (c a k : Nat) : Bool := if k = 4 then isD c 6 else isD c 5 && decide (k = 5 ∨ c ≠ a)
/-- whether the character at i can stand there -/
def csa (t : Nat → Nat) (i : Nat) : Bool := match i % 6 with
  | 0 => isD (t i) 5
  | 1 => decide (t i = 58)
  | 2 => isD (t i) 5
  | 3 => decide (kdn (t i) < 6)
  | 4 => cbB (t i) (t (i - 2)) (kdn (t (i - 1)))
  | _ => decide (t i = 44)
theorem csa_0 {t : Nat → Nat} {i : Nat} (h : i % 6 = 0) : csa t i = isD (t i) 5 := by unfold csa; rw [h]; rfl
theorem csa_1 {t : Nat → Nat} {i : Nat} (h : i % 6 = 1) : csa t i = decide (t i = 58) := by unfold csa; rw [h]; rfl
theorem csa_2 {t : Nat → Nat} {i : Nat} (h : i % 6 = 2) : csa t i = isD (t i) 5 := by unfold csa; rw [h]; rfl
theorem csa_3 {t : Nat → Nat} {i : Nat} (h : i % 6 = 3) : csa t i = decide (kdn (t i) < 6) := by unfold csa; rw [h]; rfl
theorem csa_4 {t : Nat → Nat} {i : Nat} (h : i % 6 = 4) : csa t i = cbB (t i) (t (i - 2)) (kdn (t (i - 1))) := by unfold csa; rw [h]; rfl
theorem csa_5 {t : Nat → Nat} {i : Nat} (h : i % 6 = 5) : csa t i = decide (t i = 44) := by unfold csa; rw [h]; rfl
theorem kdI_eq {c k : Nat} (hk : k < 6) : kdI c = nI k ↔ kdn c = k := by
  have := kdn_le c
  unfold kdI
  by_cases e : kdn c = 6
  · rw [if_pos e, e]
    exact ⟨fun z => absurd z.symm (nI_ne_m1 (by omega)), fun z => absurd z (by omega)⟩
  · rw [if_neg e]; exact nI_eq (by omega) (by omega)
/-- the least i below m with p, or m -/
def lst (p : Nat → Bool) : Nat → Nat
  | 0 => 0
  | m + 1 => if lst p m < m then lst p m else if p m = true then m else m + 1
theorem lst_hit {p : Nat → Bool} {m i : Nat} (hi : i < m) (h : p i = true) (hn : ∀ j, j < i → p j = false) : lst p m = i := by
  have key : ∀ m, (m ≤ i → lst p m = m) ∧ (i < m → lst p m = i) := by
    intro m
    induction m with
    | zero => exact ⟨fun _ => rfl, fun z => absurd z (by omega)⟩
    | succ m ih =>
      refine ⟨fun z => ?_, fun z => ?_⟩
      · unfold lst; rw [ih.1 (by omega), if_neg (by omega), hn m (by omega)]; rfl
      · unfold lst
        rcases Nat.lt_or_ge i m with q | q
        · rw [ih.2 q, if_pos q]
        · have e : i = m := by omega
          subst e
          rw [ih.1 (Nat.le_refl _), if_neg (by omega), if_pos h]
  exact (key m).2 hi
theorem lst_none {p : Nat → Bool} {m : Nat} (h : ∀ j, j < m → p j = false) : lst p m = m := by
  induction m with
  | zero => rfl
  | succ m ih => unfold lst; rw [ih (fun j hj => h j (by omega)), if_neg (by omega), h m (by omega)]; rfl
def ffF (t : Nat → Nat) (len : Nat) : Int32 := if lst (fun i => !csa t i) len < len then nI (lst (fun i => !csa t i) len) else if len % 6 = 5 then -6 else nI len
theorem ffF_hit {t : Nat → Nat} {len i : Nat} (hi : i < len) (h : csa t i = false) (hn : ∀ j, j < i → csa t j = true) : ffF t len = nI i := by
  have e : lst (fun i => !csa t i) len = i := lst_hit hi (by simp only [h]; rfl) (fun j hj => by simp only [hn j hj]; rfl)
  unfold ffF; rw [e, if_pos hi]
theorem ffF_end {t : Nat → Nat} {len : Nat} (hn : ∀ j, j < len → csa t j = true) : ffF t len = if len % 6 = 5 then -6 else nI len := by
  have e : lst (fun i => !csa t i) len = len := lst_none (fun j hj => by simp only [hn j hj]; rfl)
  unfold ffF; rw [e, if_neg (by omega)]
theorem ffF_ok {t : Nat → Nat} {len : Nat} (hl : len ≤ 60) (h : ffF t len = -6) : len % 6 = 5 ∧ ∀ j, j < len → csa t j = true := by
  have hll : lst (fun i => !csa t i) len ≤ len := by
    have : ∀ m, lst (fun i => !csa t i) m ≤ m := by
      intro m; induction m with
      | zero => exact Nat.le_refl _
      | succ m ih => unfold lst; split; omega; split <;> omega
    exact this len
  unfold ffF at h
  by_cases q : lst (fun i => !csa t i) len < len
  · rw [if_pos q] at h; exact absurd h (nI_ne6 (by omega))
  · rw [if_neg q] at h
    by_cases q2 : len % 6 = 5
    · refine ⟨q2, fun j hj => ?_⟩
      have key : ∀ m, lst (fun i => !csa t i) m = m → ∀ j, j < m → csa t j = true := by
        intro m
        induction m with
        | zero => intro _ j hj; omega
        | succ m ih =>
          intro e j hj
          unfold lst at e
          by_cases z : lst (fun i => !csa t i) m < m
          · rw [if_pos z] at e; omega
          · rw [if_neg z] at e
            have hm : lst (fun i => !csa t i) m = m := by
              have : ∀ m, lst (fun i => !csa t i) m ≤ m := by
                intro m; induction m with
                | zero => exact Nat.le_refl _
                | succ m ih => unfold lst; split; omega; split <;> omega
              have := this m; omega
            by_cases z2 : j = m
            · subst z2
              cases hc : csa t j with
              | true => rfl
              | false => rw [if_pos (by rw [hc]; rfl)] at e; omega
            · exact ih hm j (by omega)
      exact key len (by omega) j hj
    · rw [if_neg q2] at h; exact absurd h (nI_ne6 (by omega))
/-- a pad's cells -/
def PadAt (g : fG) (ct : Nat → va_E) (d : Nat) (t : Nat → Nat) (len : Nat) : Prop :=
  ct d = .inr (2, [.ref (fa g (d + 1)), .int (nI len)]) ∧ (∃ f : Nat → Int32, ct (d + 1) = .inl (fcC g, 60, .inl f) ∧ ∀ i, i < len → f i = nI (t i)) ∧ len ≤ 60 ∧ ∀ i, i < len → t i < 128
theorem PadAt.keep {g : fG} {ct ct1 : Nat → va_E} {d len : Nat} {t : Nat → Nat} (H : PadAt g ct d t len) (h0 : ct1 d = ct d) (h1 : ct1 (d + 1) = ct (d + 1)) : PadAt g ct1 d t len := by
  obtain ⟨a, ⟨f, b, c⟩, e⟩ := H
  exact ⟨h0.trans a, ⟨f, h1.trans b, c⟩, e⟩
theorem nchar {c : Nat} (h : c < 65536) : narrow .char (.int (nI c)) = .int (nI c) := (pk_charN h).1
theorem frem {a d : Nat} (ha : a < 2147483648) (h0 : 0 < d) (hd : d < 2147483648) : nI a - nI a / nI d * nI d = nI (a % d) := pk_rem ha h0 hd
/-- the j-th rumour of a text -/
def pdT (t : Nat → Nat) (j : Nat) : Nat := t (6 * j) - 48
def pdK (t : Nat → Nat) (j : Nat) : Nat := kdn (t (6 * j + 3))
def pdA (t : Nat → Nat) (j : Nat) : Nat := t (6 * j + 2) - 48
def pdB (t : Nat → Nat) (j : Nat) : Nat := t (6 * j + 4) - 48
theorem csa_at {t : Nat → Nat} {len j : Nat} (hl : len % 6 = 5) (h : ∀ i, i < len → csa t i = true) (hj : j < (len + 1) / 6) : (48 ≤ t (6 * j) ∧ t (6 * j) ≤ 53) ∧ t (6 * j + 1) = 58 ∧ (48 ≤ t (6 * j + 2) ∧ t (6 * j + 2) ≤ 53) ∧ kdn (t (6 * j + 3)) < 6 ∧ (48 ≤ t (6 * j + 4) ∧ t (6 * j + 4) ≤ 54 ∧ (kdn (t (6 * j + 3)) ≠ 4 → t (6 * j + 4) ≤ 53 ∧ (kdn (t (6 * j + 3)) = 5 ∨ t (6 * j + 4) ≠ t (6 * j + 2)))) := by
  have e : 6 * j + 5 ≤ len := by omega
  have h0 := h (6 * j) (by omega)
  have h1 := h (6 * j + 1) (by omega)
  have h2 := h (6 * j + 2) (by omega)
  have h3 := h (6 * j + 3) (by omega)
  have h4 := h (6 * j + 4) (by omega)
  rw [csa_0 (by omega)] at h0
  rw [csa_1 (by omega)] at h1
  rw [csa_2 (by omega)] at h2
  rw [csa_3 (by omega)] at h3
  rw [csa_4 (by omega)] at h4
  have a0 := of_decide_eq_true h0
  have a1 := of_decide_eq_true h1
  have a2 := of_decide_eq_true h2
  have a3 := of_decide_eq_true h3
  refine ⟨⟨a0.1, by omega⟩, a1, ⟨a2.1, by omega⟩, a3, ?_⟩
  rw [show 6 * j + 4 - 2 = 6 * j + 2 by omega, show 6 * j + 4 - 1 = 6 * j + 3 by omega] at h4
  unfold cbB at h4
  by_cases q : kdn (t (6 * j + 3)) = 4
  · rw [if_pos q] at h4
    have a4 := of_decide_eq_true h4
    exact ⟨a4.1, by omega, fun z => absurd q z⟩
  · rw [if_neg q, Bool.and_eq_true] at h4
    have a4 := of_decide_eq_true h4.1
    have a5 := of_decide_eq_true h4.2
    exact ⟨a4.1, by omega, fun _ => ⟨by omega, a5⟩⟩













