/-! the house as a row of numbers: 0 boxes, 1 rumours, 2 the act, 3.. looks, 9.. scores, 15.. guessed, 21.. five for a rumour (teller, kind, a, b, how) -/
def nB (σ : Nat → Int32) : Nat := (σ 0).toNatClampNeg
def nT (σ : Nat → Int32) : Nat := (σ 1).toNatClampNeg
def lkf (σ : Nat → Int32) (p : Nat) : Nat := if p < 6 then (σ (3 + p)).toNatClampNeg else 0
theorem lkf_fn {σ τ : Nat → Int32} (h : ∀ p, p < 6 → τ (3 + p) = σ (3 + p)) : lkf τ = lkf σ := by
  funext p; unfold lkf; by_cases q : p < 6
  · rw [if_pos q, if_pos q, h p q]
  · rw [if_neg q, if_neg q]
def rk (σ : Nat → Int32) (r i : Nat) : Nat := (σ (21 + 5 * r + i)).toNatClampNeg
/-- a and b suit the kind -/
def okk (n kd a b : Nat) : Prop := kd ≤ 5 ∧ a < n ∧ (kd = 4 → b ≤ 6) ∧ (kd ≠ 4 → b < n ∧ (kd = 5 ∨ a ≠ b))
/-- whether a rumour holds in a world -/
def hd (n : Nat) (w : Nat → Nat) (kd a b : Nat) : Bool := match kd with
  | 0 => decide (w a = b)
  | 1 => decide (w a ≠ b)
  | 2 => decide (w a = b ∧ w b = a)
  | 3 => decide (w a = w b)
  | 4 => decide (cN (fun p => decide (w p = a)) n = b)
  | _ => decide (w (w a) = b)
/-- whether it is proved and does not hold, or refuted and holds -/
def bk (n : Nat) (w : Nat → Nat) (kd a b st : Nat) : Bool := if hd n w kd a b = true then decide (st = 2) else decide (st = 1)
def hdr (σ : Nat → Int32) (w : Nat → Nat) (r : Nat) : Bool := hd (nB σ) w (rk σ r 1) (rk σ r 2) (rk σ r 3)
def bad (σ : Nat → Int32) (w : Nat → Nat) (r : Nat) : Bool := bk (nB σ) w (rk σ r 1) (rk σ r 2) (rk σ r 3) (rk σ r 4)
def rOK (σ : Nat → Int32) (r : Nat) : Prop := (∀ i, i < 5 → σ (21 + 5 * r + i) = nI (rk σ r i)) ∧ rk σ r 0 < nB σ ∧ okk (nB σ) (rk σ r 1) (rk σ r 2) (rk σ r 3) ∧ rk σ r 4 ≤ 2
/-- what holds of a house at all times -/
def Good (σ : Nat → Int32) : Prop := (σ 0 = nI (nB σ) ∧ 3 ≤ nB σ ∧ nB σ ≤ 6) ∧ (σ 1 = nI (nT σ) ∧ nT σ ≤ 20) ∧ (∀ p, p < nB σ → σ (3 + p) = nI (lkf σ p) ∧ lkf σ p < nB σ ∧ lkf σ p ≠ p) ∧ (∀ p, p < 6 → σ (15 + p) = nI 0 ∨ σ (15 + p) = nI 1) ∧ ∀ r, r < nT σ → rOK σ r
/-- a row of six shows a world of n persons -/
def RW (n : Nat) (w : Nat → Nat) (f : Nat → Int32) : Prop := ∀ p, p < 6 → f p = if p < n then nI (w p) else -1
def Wok (n : Nat) (w : Nat → Nat) : Prop := ∀ p, p < n → w p < n
theorem RW.in {n : Nat} {w : Nat → Nat} {f : Nat → Int32} (h : RW n w f) {p : Nat} (hp : p < n) (hn : n ≤ 6) : f p = nI (w p) := by rw [h p (by omega), if_pos hp]
theorem RW.out {n : Nat} {w : Nat → Nat} {f : Nat → Int32} (h : RW n w f) {p : Nat} (hp : n ≤ p) (h6 : p < 6) : f p = -1 := by rw [h p h6, if_neg (by omega)]
theorem nI_ne_m1 {a : Nat} (h : a < 2147483648) : nI a ≠ -1 := fun q => by
  have h2 := congrArg Int32.toInt q
  rw [nI_toInt h] at h2
  exact absurd h2 (by have : (-1 : Int32).toInt = -1 := rfl
                      omega)
/-- of six, how many show a box: of n persons, how many look at it -/
theorem RW.watch {n : Nat} {w : Nat → Nat} {f : Nat → Int32} (h : RW n w f) (hw : Wok n w) (hn : n ≤ 6) {a : Nat} (ha : a < 2147483648) : cN (fun i => decide (f i = nI a)) 6 = cN (fun p => decide (w p = a)) n := by
  have key : ∀ m, m ≤ 6 → cN (fun i => decide (f i = nI a)) m = cN (fun p => decide (w p = a)) (min m n) := by
    intro m
    induction m with
    | zero => intro _; rw [Nat.zero_min]; rfl
    | succ m ih =>
      intro hm
      rw [cN_succ, ih (by omega)]
      by_cases hmn : m < n
      · rw [Nat.min_eq_left (by omega : m ≤ n), Nat.min_eq_left (by omega : m + 1 ≤ n), cN_succ]
        have e : decide (f m = nI a) = decide (w m = a) := by
          rw [h.in hmn hn]
          have hw2 := hw m hmn
          exact decide_eq_decide.mpr (nI_eq (by omega) ha)
        rw [e]
      · rw [Nat.min_eq_right (by omega : n ≤ m), Nat.min_eq_right (by omega : n ≤ m + 1)]
        have e : decide (f m = nI a) = false := by
          rw [h.out (by omega) (by omega)]
          exact decide_eq_false (fun q => nI_ne_m1 ha q.symm)
        rw [e]; rfl
  have h6 := key 6 (Nat.le_refl 6)
  rw [Nat.min_eq_right hn] at h6
  exact h6
theorem cN_lt7 {p : Nat → Bool} {n : Nat} (h : n ≤ 6) : cN p n < 7 := by have := cN_le p n; omega
/-- a house's cells: the object at h, then looks, scores, guessed, rumours, and twenty rumours -/
def rumC (te kd a b st : Int32) : va_E := .inr (3, [.int te, .int kd, .int a, .int b, .int st])
def HouseAt (g : fG) (ct : Nat → va_E) (h : Nat) (σ : Nat → Int32) : Prop :=
  ct h = .inr (1, [.int (nI (nB σ)), .int (σ 2), .int (nI (nT σ)), .ref (fa g (h + 1)), .ref (fa g (h + 2)), .ref (fa g (h + 3)), .ref (fa g (h + 4))]) ∧
  (∃ f : Nat → Int32, ct (h + 1) = .inl (fcI g, 6, .inl f) ∧ RW (nB σ) (lkf σ) f) ∧
  (∃ f : Nat → Int32, ct (h + 2) = .inl (fcI g, 6, .inl f) ∧ ∀ p, p < 6 → f p = σ (9 + p)) ∧
  (∃ f : Nat → Int32, ct (h + 3) = .inl (fcI g, 6, .inl f) ∧ ∀ p, p < 6 → f p = σ (15 + p)) ∧
  (∃ f : Nat → Option Nat, ct (h + 4) = .inl (fcR g, 20, .inr (.inr (.inr (.inr f)))) ∧ ∀ r, r < 20 → f r = some (fa g (h + 5 + r))) ∧
  ∀ r, r < 20 → ∃ te kd a b st : Int32, ct (h + 5 + r) = .inr (3, [.int te, .int kd, .int a, .int b, .int st]) ∧ (r < nT σ → te = nI (rk σ r 0) ∧ kd = nI (rk σ r 1) ∧ a = nI (rk σ r 2) ∧ b = nI (rk σ r 3) ∧ st = nI (rk σ r 4))
/-- its shape alone -/
def HouseSh (g : fG) (ct : Nat → va_E) (h : Nat) : Prop :=
  (∃ b a t : Int32, ct h = .inr (1, [.int b, .int a, .int t, .ref (fa g (h + 1)), .ref (fa g (h + 2)), .ref (fa g (h + 3)), .ref (fa g (h + 4))])) ∧
  (∃ f : Nat → Int32, ct (h + 1) = .inl (fcI g, 6, .inl f)) ∧ (∃ f : Nat → Int32, ct (h + 2) = .inl (fcI g, 6, .inl f)) ∧ (∃ f : Nat → Int32, ct (h + 3) = .inl (fcI g, 6, .inl f)) ∧
  (∃ f : Nat → Option Nat, ct (h + 4) = .inl (fcR g, 20, .inr (.inr (.inr (.inr f)))) ∧ ∀ r, r < 20 → f r = some (fa g (h + 5 + r))) ∧
  ∀ r, r < 20 → ∃ te kd a b st : Int32, ct (h + 5 + r) = .inr (3, [.int te, .int kd, .int a, .int b, .int st])
theorem HouseAt.sh {g : fG} {ct : Nat → va_E} {h : Nat} {σ : Nat → Int32} (H : HouseAt g ct h σ) : HouseSh g ct h := by
  obtain ⟨h1, ⟨f1, h2, -⟩, ⟨f2, h3, -⟩, ⟨f3, h4, -⟩, h5, h6⟩ := H
  refine ⟨⟨_, _, _, h1⟩, ⟨f1, h2⟩, ⟨f2, h3⟩, ⟨f3, h4⟩, h5, fun r hr => ?_⟩
  obtain ⟨te, kd, a, b, st, h7, -⟩ := h6 r hr
  exact ⟨te, kd, a, b, st, h7⟩
/-- nothing changes but from lo on, below hi -/
def fSame (lo hi : Nat) (ct ct1 : Nat → va_E) : Prop := ∀ j, (j < lo ∨ hi ≤ j) → ct1 j = ct j
theorem fSame.rf {lo hi : Nat} {ct : Nat → va_E} : fSame lo hi ct ct := fun _ _ => rfl
theorem fSame.tr {lo hi : Nat} {ct ct1 ct2 : Nat → va_E} (h1 : fSame lo hi ct ct1) (h2 : fSame lo hi ct1 ct2) : fSame lo hi ct ct2 := fun j hj => (h2 j hj).trans (h1 j hj)
theorem fSame.up {lo hi k : Nat} {ct : Nat → va_E} {e : va_E} (h1 : lo ≤ k) (h2 : k < hi) : fSame lo hi ct (fu ct k e) := fun j hj => fu_ne (by omega)
theorem fSame.wide {lo hi lo2 hi2 : Nat} {ct ct1 : Nat → va_E} (h : fSame lo hi ct ct1) (h1 : lo2 ≤ lo) (h2 : hi ≤ hi2) : fSame lo2 hi2 ct ct1 := fun j hj => h j (by omega)
theorem fSame.tr2 {lo hi lo2 hi2 : Nat} {ct ct1 ct2 : Nat → va_E} (h1 : fSame lo hi ct ct1) (h2 : fSame lo2 hi2 ct1 ct2) (a : lo ≤ lo2) (b : hi2 ≤ hi) : fSame lo hi ct ct2 := fun j hj => (h2 j (by omega)).trans (h1 j hj)
theorem HouseAt.keep {g : fG} {ct ct1 : Nat → va_E} {h : Nat} {σ : Nat → Int32} (H : HouseAt g ct h σ) (hs : ∀ j, h ≤ j → j < h + 25 → ct1 j = ct j) : HouseAt g ct1 h σ := by
  obtain ⟨h1, ⟨f1, h2, h2b⟩, ⟨f2, h3, h3b⟩, ⟨f3, h4, h4b⟩, ⟨f4, h5, h5b⟩, h6⟩ := H
  refine ⟨(hs _ (by omega) (by omega)).trans h1, ⟨f1, (hs _ (by omega) (by omega)).trans h2, h2b⟩, ⟨f2, (hs _ (by omega) (by omega)).trans h3, h3b⟩, ⟨f3, (hs _ (by omega) (by omega)).trans h4, h4b⟩, ⟨f4, (hs _ (by omega) (by omega)).trans h5, h5b⟩, fun r hr => ?_⟩
  obtain ⟨te, kd, a, b, st, h7, h8⟩ := h6 r hr
  exact ⟨te, kd, a, b, st, (hs _ (by omega) (by omega)).trans h7, h8⟩
theorem HouseSh.keep {g : fG} {ct ct1 : Nat → va_E} {h : Nat} (H : HouseSh g ct h) (hs : ∀ j, h ≤ j → j < h + 25 → ct1 j = ct j) : HouseSh g ct1 h := by
  obtain ⟨⟨b0, a0, t0, h1⟩, ⟨f1, h2⟩, ⟨f2, h3⟩, ⟨f3, h4⟩, ⟨f4, h5, h5b⟩, h6⟩ := H
  refine ⟨⟨b0, a0, t0, (hs _ (by omega) (by omega)).trans h1⟩, ⟨f1, (hs _ (by omega) (by omega)).trans h2⟩, ⟨f2, (hs _ (by omega) (by omega)).trans h3⟩, ⟨f3, (hs _ (by omega) (by omega)).trans h4⟩, ⟨f4, (hs _ (by omega) (by omega)).trans h5, h5b⟩, fun r hr => ?_⟩
  obtain ⟨te, kd, a, b, st, h7⟩ := h6 r hr
  exact ⟨te, kd, a, b, st, (hs _ (by omega) (by omega)).trans h7⟩
