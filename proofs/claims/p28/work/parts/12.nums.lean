/-! conditions over numbers -/
def bI (P : Prop) [Decidable P] : Int32 := if P then nI 1 else nI 0
theorem bI_t {P : Prop} [Decidable P] (h : P) : nI 1 = bI P := (if_pos h).symm
theorem bI_f {P : Prop} [Decidable P] (h : ¬ P) : nI 0 = bI P := (if_neg h).symm
theorem bI_or (P : Prop) [Decidable P] : bI P = nI 0 ∨ bI P = nI 1 := by
  unfold bI; by_cases h : P
  · right; rw [if_pos h]
  · left; rw [if_neg h]
theorem fb_0 {r : Int32} {P : Prop} [Decidable P] (h : r = bI P) : r = 0 ↔ ¬ P := by
  subst h; unfold bI; by_cases hp : P
  · rw [if_pos hp]; exact ⟨fun q => absurd q (by decide), fun q => absurd hp q⟩
  · rw [if_neg hp]; exact ⟨fun _ => hp, fun _ => rfl⟩
theorem fb_1 {r : Int32} {P : Prop} [Decidable P] (h : r = bI P) : ¬ r = 0 ↔ P := by
  rw [fb_0 h]; exact Decidable.not_not
theorem fb_n {r : Int32} {P : Prop} [Decidable P] (h : r = bI P) : narrow .boolean (.int r) = .int r := by
  rcases bI_or P with q | q <;> rw [h, q] <;> rfl
theorem fi0 : (0 : Int32).toInt = 0 := rfl
theorem fz_lt {x : Int32} : x < 0 ↔ x.toInt < 0 := by rw [Int32.lt_iff_toInt_lt, fi0]
theorem fz_ge {x : Int32} : 0 ≤ x ↔ 0 ≤ x.toInt := by rw [Int32.le_iff_toInt_le, fi0]
theorem fz_gt {x : Int32} : 0 < x ↔ 0 < x.toInt := by rw [Int32.lt_iff_toInt_lt, fi0]
theorem fz_le {x : Int32} : x ≤ 0 ↔ x.toInt ≤ 0 := by rw [Int32.le_iff_toInt_le, fi0]
theorem fz_eq {x : Int32} : x = 0 ↔ x.toInt = 0 := by rw [← Int32.toInt_inj, fi0]
theorem fz_ltN {a : Nat} (h : a < 2147483648) : nI a < 0 ↔ a < 0 := by rw [fz_lt, nI_toInt h]; omega
theorem fz_geN {a : Nat} (h : a < 2147483648) : 0 ≤ nI a ↔ 0 ≤ a := by rw [fz_ge, nI_toInt h]; omega
theorem fz_gtN {a : Nat} (h : a < 2147483648) : 0 < nI a ↔ 0 < a := by rw [fz_gt, nI_toInt h]; omega
theorem fz_leN {a : Nat} (h : a < 2147483648) : nI a ≤ 0 ↔ a ≤ 0 := by rw [fz_le, nI_toInt h]; omega
theorem fz_eqN {a : Nat} (h : a < 2147483648) : nI a = 0 ↔ a = 0 := by rw [fz_eq, nI_toInt h]; omega
theorem fn_lt {x : Int32} {b : Nat} (h : b < 2147483648) : x < nI b ↔ x.toInt < (b : Int) := by rw [Int32.lt_iff_toInt_lt, nI_toInt h]
theorem fn_ge {x : Int32} {b : Nat} (h : b < 2147483648) : nI b ≤ x ↔ (b : Int) ≤ x.toInt := by rw [Int32.le_iff_toInt_le, nI_toInt h]
theorem fn_gt {x : Int32} {b : Nat} (h : b < 2147483648) : nI b < x ↔ (b : Int) < x.toInt := by rw [Int32.lt_iff_toInt_lt, nI_toInt h]
theorem fn_le {x : Int32} {b : Nat} (h : b < 2147483648) : x ≤ nI b ↔ x.toInt ≤ (b : Int) := by rw [Int32.le_iff_toInt_le, nI_toInt h]
theorem fn_eq {x : Int32} {b : Nat} (h : b < 2147483648) : x = nI b ↔ x.toInt = (b : Int) := by rw [← Int32.toInt_inj, nI_toInt h]
theorem fm_lt {y : Int32} {a : Nat} (h : a < 2147483648) : nI a < y ↔ (a : Int) < y.toInt := fn_gt h
theorem fm_ge {y : Int32} {a : Nat} (h : a < 2147483648) : y ≤ nI a ↔ y.toInt ≤ (a : Int) := fn_le h
theorem fm_gt {y : Int32} {a : Nat} (h : a < 2147483648) : y < nI a ↔ y.toInt < (a : Int) := fn_lt h
theorem fm_le {y : Int32} {a : Nat} (h : a < 2147483648) : nI a ≤ y ↔ (a : Int) ≤ y.toInt := fn_ge h
theorem fm_eq {y : Int32} {a : Nat} (h : a < 2147483648) : nI a = y ↔ (a : Int) = y.toInt := by rw [← Int32.toInt_inj, nI_toInt h]
theorem fin_of {i : Int32} {n : Nat} (h0 : 0 ≤ i.toInt) (h1 : i.toInt < (n : Int)) : vp_in i n := vp_in_iff.mpr ⟨h0, h1⟩
theorem fex {x : Int32} {n : Nat} (h0 : 0 ≤ x.toInt) (h1 : x.toInt < (n : Int)) : ∃ j : Nat, j < n ∧ x = nI j := by
  have h3 := Int32.toInt_lt x
  refine ⟨x.toInt.toNat, by omega, ?_⟩
  apply Int32.toInt_inj.mp
  rw [nI_toInt (by omega)]
  omega
theorem fcl {x : Int32} (h0 : 0 ≤ x.toInt) : x.toNatClampNeg = x.toInt.toNat := rfl
/-! loops -/
section FL
variable {p : Program} {l : Launch} {e : Env} {R : Room} {s : State} {m : MethodId} {args : Array Value} {below : List Frame} {meth : Method} {c : Code} {H : Heap} {locs : List Loc} {cells slots : Nat} {Q : State → Prop}
variable {head : Nat} {g : fG} {N : Nat}
theorem fs_indP {St : Type} (I : St → Array Slot → Prop) (mu : St → Nat)
    (step : ∀ (st : St) (ls : Array Slot) (locs : List Loc), I st ls → va_S (fB g) s.heap H locs → (∀ (st2 : St) (ls2 : Array Slot) (locs2 : List Loc), mu st2 < mu st → I st2 ls2 → va_S (fB g) s.heap H locs2 → W p l e R s m args below meth c H locs2 cells slots Q (F0 m head ls2 [])) → W p l e R s m args below meth c H locs cells slots Q (F0 m head ls [])) :
    ∀ (st : St) (ls : Array Slot) (locs : List Loc), I st ls → va_S (fB g) s.heap H locs → W p l e R s m args below meth c H locs cells slots Q (F0 m head ls []) := by
  have key : ∀ (n : Nat) (st : St) (ls : Array Slot) (locs : List Loc), mu st < n → I st ls → va_S (fB g) s.heap H locs → W p l e R s m args below meth c H locs cells slots Q (F0 m head ls []) := by
    intro n
    induction n with
    | zero => intro st ls locs h; exact absurd h (Nat.not_lt_zero _)
    | succ n ih => intro st ls locs h hI hS; exact step st ls locs hI hS (fun st2 ls2 locs2 h2 hI2 hS2 => ih st2 ls2 locs2 (by omega) hI2 hS2)
  exact fun st ls locs hI hS => key (mu st + 1) st ls locs (by omega) hI hS
theorem fs_ind {St : Type} (I : St → (Nat → va_E) → Array Slot → Prop) (mu : St → Nat)
    (step : ∀ (st : St) (ct : Nat → va_E) (H : Heap) (ls : Array Slot) (locs : List Loc), I st ct ls → fP g N ct H → va_S (fB g) s.heap H locs → (∀ (st2 : St) (ct2 : Nat → va_E) (H2 : Heap) (ls2 : Array Slot) (locs2 : List Loc), mu st2 < mu st → I st2 ct2 ls2 → fP g N ct2 H2 → va_S (fB g) s.heap H2 locs2 → W p l e R s m args below meth c H2 locs2 cells slots Q (F0 m head ls2 [])) → W p l e R s m args below meth c H locs cells slots Q (F0 m head ls [])) :
    ∀ (st : St) (ct : Nat → va_E) (H : Heap) (ls : Array Slot) (locs : List Loc), I st ct ls → fP g N ct H → va_S (fB g) s.heap H locs → W p l e R s m args below meth c H locs cells slots Q (F0 m head ls []) := by
  have key : ∀ (n : Nat) (st : St) (ct : Nat → va_E) (H : Heap) (ls : Array Slot) (locs : List Loc), mu st < n → I st ct ls → fP g N ct H → va_S (fB g) s.heap H locs → W p l e R s m args below meth c H locs cells slots Q (F0 m head ls []) := by
    intro n
    induction n with
    | zero => intro st ct H ls locs h; exact absurd h (Nat.not_lt_zero _)
    | succ n ih => intro st ct H ls locs h hI hP hS; exact step st ct H ls locs hI hP hS (fun st2 ct2 H2 ls2 locs2 h2 hI2 hP2 hS2 => ih st2 ct2 H2 ls2 locs2 (by omega) hI2 hP2 hS2)
  exact fun st ct H ls locs hI hP hS => key (mu st + 1) st ct H ls locs (by omega) hI hP hS
end FL
/-! counts -/
def cN (p : Nat → Bool) : Nat → Nat
  | 0 => 0
  | m + 1 => cN p m + if p m then 1 else 0
theorem cN_succ (p : Nat → Bool) (m : Nat) : cN p (m + 1) = cN p m + if p m then 1 else 0 := rfl
theorem cN_t {p : Nat → Bool} {m : Nat} (h : p m = true) : cN p (m + 1) = cN p m + 1 := by rw [cN_succ, if_pos h]
theorem cN_f {p : Nat → Bool} {m : Nat} (h : p m = false) : cN p (m + 1) = cN p m := by rw [cN_succ, h]; rfl
theorem cN_le (p : Nat → Bool) (m : Nat) : cN p m ≤ m := by
  induction m with
  | zero => exact Nat.le_refl 0
  | succ m ih => rw [cN_succ]; split <;> omega
theorem cN_cong {p q : Nat → Bool} {m : Nat} (h : ∀ i, i < m → p i = q i) : cN p m = cN q m := by
  induction m with
  | zero => rfl
  | succ m ih => rw [cN_succ, cN_succ, ih (fun i hi => h i (by omega)), h m (by omega)]
theorem cN_zero {p : Nat → Bool} {m : Nat} (h : ∀ i, i < m → p i = false) : cN p m = 0 := by
  induction m with
  | zero => rfl
  | succ m ih => rw [cN_f (h m (by omega)), ih (fun i hi => h i (by omega))]
theorem cN_pos {p : Nat → Bool} {m i : Nat} (hi : i < m) (h : p i = true) : 0 < cN p m := by
  induction m with
  | zero => omega
  | succ m ih =>
    by_cases e : i = m
    · subst e; rw [cN_t h]; omega
    · have := ih (by omega); rw [cN_succ]; omega
theorem upd_eq (f : Nat → Int32) (k : Nat) (x : Int32) : upd f k x k = x := by simp [upd]
theorem upd_ne {f : Nat → Int32} {k j : Nat} {x : Int32} (h : j ≠ k) : upd f k x j = f j := by simp [upd, h]
