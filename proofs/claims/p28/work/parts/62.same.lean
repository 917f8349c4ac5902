/-! what the law compares -/
def RWS (g : fG) (ct : Nat → va_E) (fl fsc fgu fr fq : Nat → Int32) : Prop := ct 239 = .inl (fcI g, 6, .inl fl) ∧ ct 240 = .inl (fcI g, 6, .inl fsc) ∧ ct 241 = .inl (fcI g, 6, .inl fgu) ∧ ct 242 = .inl (fcI g, 60, .inl fr) ∧ ct 243 = .inl (fcI g, 3, .inl fq)
section FC
variable {p : Program} {l : Launch} {e : Env} {R : Room} {s : State} {m : MethodId} {args : Array Value} {below : List Frame} {meth : Method} {c : Code} {H : Heap} {locs : List Loc} {cells slots : Nat} {Q : State → Prop} {g : fG} {g1 : JFrame}
theorem fs_cutS (G : JFrame) (h1 : ∀ locs : List Loc, va_S (fB g) s.heap H locs → W p l e R s m args below meth c H locs cells slots Q G) (h2 : (∀ locs : List Loc, va_S (fB g) s.heap H locs → W p l e R s m args below meth c H locs cells slots Q G) → W p l e R s m args below meth c H locs cells slots Q g1) : W p l e R s m args below meth c H locs cells slots Q g1 := h2 h1
theorem fs_cutN (P : Nat → Prop) (G : Nat → JFrame) (h1 : ∀ (b : Nat) (locs : List Loc), P b → va_S (fB g) s.heap H locs → W p l e R s m args below meth c H locs cells slots Q (G b)) (h2 : (∀ (b : Nat) (locs : List Loc), P b → va_S (fB g) s.heap H locs → W p l e R s m args below meth c H locs cells slots Q (G b)) → W p l e R s m args below meth c H locs cells slots Q g1) : W p l e R s m args below meth c H locs cells slots Q g1 := h2 h1
end FC
abbrev srF (σ : Nat → Int32) : Nat → Bool := fun r => opn σ r && decide (0 < Wn σ ∧ HDn σ r = Wn σ)
abbrev nvF (σ : Nat → Int32) : Nat → Bool := fun r => opn σ r && decide (0 < Wn σ ∧ HDn σ r = 0)
abbrev ceF (σ : Nat → Int32) : Nat → Bool := fun p => decide (¬ crF σ p = -6)
def shB (σ : Nat → Int32) (r : Nat) : Option Nat := bst (opn σ) (fun a b => decide (WOn σ a < WOn σ b)) r
def blB (σ : Nat → Int32) (r : Nat) : Option Nat := bst (fun r => !opn σ r) (fun a b => decide (ONn σ b < ONn σ a)) r
def SHo (o : Option Nat) (F : Nat → Nat) (a b : Int32) : Prop := match o with
  | none => a = -6
  | some c => a = nI c ∧ b = nI (F c)
def SH (σ : Nat → Int32) (r : Nat) (a b : Int32) : Prop := SHo (shB σ r) (WOn σ) a b
def BL (σ : Nat → Int32) (r : Nat) (a b : Int32) : Prop := (0 < Wn σ → a = -6) ∧ (Wn σ = 0 → SHo (blB σ r) (ONn σ) a b)
theorem WOn_le {σ : Nat → Int32} (hG : Good σ) (r : Nat) : WOn σ r ≤ 15625 := Nat.max_le.mpr ⟨HD_le2 hG r, Nat.le_trans (Nat.sub_le _ _) (Wn_le hG)⟩
theorem neg6 : (-6 : Int32) < 0 := by decide
theorem SH_0 {σ : Nat → Int32} {b : Int32} : SH σ 0 (-6) b := rfl
theorem BL_0 {σ : Nat → Int32} {b : Int32} : BL σ 0 (-6) b := ⟨fun _ => rfl, fun _ => rfl⟩
/-- one step of the choice -/
theorem bst_new2 {op : Nat → Bool} {lt : Nat → Nat → Bool} {F : Nat → Nat} {r : Nat} {a b : Int32} (hr : r ≤ 20) (H : SHo (bst op lt r) F a b) (h : op r = true) (hc : ∀ c, c < 20 → a = nI c → b = nI (F c) → lt r c = true) : SHo (bst op lt (r + 1)) F (nI r) (nI (F r)) := by
  cases hb : bst op lt r with
  | none => rw [bst_new h hb]; exact ⟨rfl, rfl⟩
  | some c =>
    rw [hb] at H
    obtain ⟨h1, h2⟩ : a = nI c ∧ b = nI (F c) := H
    have hlt := (bst_lt hb).1
    rw [bst_yes h hb (hc c (by omega) h1 h2)]; exact ⟨rfl, rfl⟩
theorem bst_old2 {op : Nat → Bool} {lt : Nat → Nat → Bool} {F : Nat → Nat} {r : Nat} {a b : Int32} (hr : r ≤ 20) (H : SHo (bst op lt r) F a b) (h : op r = true) (ha : ¬ a < 0) (hc : ∀ c, c < 20 → a = nI c → b = nI (F c) → lt r c = false) : SHo (bst op lt (r + 1)) F a b := by
  cases hb : bst op lt r with
  | none =>
    rw [hb] at H
    have h1 : a = -6 := H
    rw [h1] at ha; exact absurd neg6 ha
  | some c =>
    rw [hb] at H
    obtain ⟨h1, h2⟩ : a = nI c ∧ b = nI (F c) := H
    have hlt := (bst_lt hb).1
    rw [bst_old h hb (hc c (by omega) h1 h2)]; exact ⟨h1, h2⟩
theorem SH_no {σ : Nat → Int32} {r : Nat} {a b : Int32} (H : SH σ r a b) (h : opn σ r = false) : SH σ (r + 1) a b := by
  unfold SH shB at *; rw [bst_no h]; exact H
theorem SH_new {σ : Nat → Int32} {r : Nat} {a b : Int32} (hG : Good σ) (hr : r ≤ 20) (H : SH σ r a b) (h : opn σ r = true) (hc : a < 0 ∨ nI (WOn σ r) < b) : SH σ (r + 1) (nI r) (nI (WOn σ r)) := by
  refine bst_new2 hr H h (fun c hc20 h1 h2 => decide_eq_true ?_)
  have hw := WOn_le hG r
  have hw2 := WOn_le hG c
  rcases hc with y | y
  · rw [h1, fz_ltN (by omega)] at y; omega
  · rw [h2, nI_ltI (by omega) (by omega)] at y; exact y
theorem SH_old {σ : Nat → Int32} {r : Nat} {a b : Int32} (hG : Good σ) (hr : r ≤ 20) (H : SH σ r a b) (h : opn σ r = true) (ha : ¬ a < 0) (hc : ¬ nI (WOn σ r) < b) : SH σ (r + 1) a b := by
  refine bst_old2 hr H h ha (fun c hc20 h1 h2 => decide_eq_false (fun y => hc ?_))
  have hw := WOn_le hG r
  have hw2 := WOn_le hG c
  rw [h2, nI_ltI (by omega) (by omega)]; exact y
theorem BL_w {σ : Nat → Int32} {r : Nat} {a b : Int32} (H : BL σ r a b) (h : ¬ Wn σ = 0) : BL σ (r + 1) a b := ⟨H.1, fun y => absurd y h⟩
theorem BL_no {σ : Nat → Int32} {r : Nat} {a b : Int32} (H : BL σ r a b) (h : opn σ r = true) : BL σ (r + 1) a b := ⟨H.1, fun y => by
  have h2 := H.2 y
  unfold blB at *; rw [bst_no (by rw [h]; rfl)]; exact h2⟩
theorem BL_new {σ : Nat → Int32} {r : Nat} {a b : Int32} (hG : Good σ) (hr : r ≤ 20) (H : BL σ r a b) (hW : Wn σ = 0) (h : opn σ r = false) (hc : a < 0 ∨ b < nI (ONn σ r)) : BL σ (r + 1) (nI r) (nI (ONn σ r)) := by
  refine ⟨fun y => absurd hW (by omega), fun _ => bst_new2 hr (H.2 hW) (by rw [h]; rfl) (fun c hc20 h1 h2 => decide_eq_true ?_)⟩
  have hw := ON_le hG r
  have hw2 := ON_le hG c
  rcases hc with y | y
  · rw [h1, fz_ltN (by omega)] at y; omega
  · rw [h2, nI_ltI (by omega) (by omega)] at y; exact y
theorem BL_old {σ : Nat → Int32} {r : Nat} {a b : Int32} (hG : Good σ) (hr : r ≤ 20) (H : BL σ r a b) (hW : Wn σ = 0) (h : opn σ r = false) (ha : ¬ a < 0) (hc : ¬ b < nI (ONn σ r)) : BL σ (r + 1) a b := by
  refine ⟨fun y => absurd hW (by omega), fun _ => bst_old2 hr (H.2 hW) (by rw [h]; rfl) ha (fun c hc20 h1 h2 => decide_eq_false (fun y => hc ?_))⟩
  have hw := ON_le hG r
  have hw2 := ON_le hG c
  rw [h2, nI_ltI (by omega) (by omega)]; exact y
theorem SHo_neg {o : Option Nat} {F : Nat → Nat} {a b : Int32} (H : SHo o F a b) (ho : ∀ c, o = some c → c < 20) (h : a < 0) : o = none := by
  cases o with
  | none => rfl
  | some c =>
    have h1 : a = nI c := H.1
    have h2 := ho c rfl
    rw [h1, fz_ltN (by omega)] at h; omega
theorem SHo_pos {o : Option Nat} {F : Nat → Nat} {a b : Int32} (H : SHo o F a b) (h : 0 ≤ a) : ∃ c, o = some c ∧ a = nI c ∧ b = nI (F c) := by
  cases o with
  | none =>
    have h1 : a = -6 := H
    rw [h1] at h; exact absurd h (by decide)
  | some c => exact ⟨c, rfl, H.1, H.2⟩
theorem i32_le {a : Int32} (h : ¬ a < 0) : 0 ≤ a := by
  rw [fz_ge]; rw [fz_lt] at h; omega
theorem i32_lt {a : Int32} (h : ¬ 0 ≤ a) : a < 0 := by
  rw [fz_lt]; rw [fz_ge] at h; omega
theorem shB_lt {σ : Nat → Int32} (hG : Good σ) : ∀ c, shB σ (nT σ) = some c → c < 20 := fun c h => by have := (bst_lt h).1; have := hG.k; omega
theorem blB_lt {σ : Nat → Int32} (hG : Good σ) : ∀ c, blB σ (nT σ) = some c → c < 20 := fun c h => by have := (bst_lt h).1; have := hG.k; omega
theorem SH_a0 {σ : Nat → Int32} {a b : Int32} (H : SH σ (nT σ) a b) : shR σ (nI 0) = a := by
  unfold SH at H
  cases hb : shB σ (nT σ) with
  | none => rw [hb] at H; rw [shR_n hb]; exact H.symm
  | some c => rw [hb] at H; rw [shR_0 (x := nI 0) hb rfl]; exact H.1.symm
theorem SH_neg {σ : Nat → Int32} {a b : Int32} (hG : Good σ) (H : SH σ (nT σ) a b) (h : ¬ 0 ≤ a) : -6 = shR σ (nI 1) := (shR_n (SHo_neg H (shB_lt hG) (i32_lt h))).symm
theorem SH_pos {σ : Nat → Int32} {a b : Int32} (H : SH σ (nT σ) a b) (h : 0 ≤ a) : b = shR σ (nI 1) := by
  obtain ⟨c, h1, h2, h3⟩ := SHo_pos H h
  rw [shR_1 h1 (by decide)]; exact h3
theorem BL_a0 {σ : Nat → Int32} {a b : Int32} (H : BL σ (nT σ) a b) : blR σ (nI 0) = a := by
  by_cases hW : 0 < Wn σ
  · rw [blR_p hW]; exact (H.1 hW).symm
  · have h2 := H.2 (by omega)
    cases hb : blB σ (nT σ) with
    | none => rw [hb] at h2; rw [blR_n hW hb]; exact h2.symm
    | some c => rw [hb] at h2; rw [blR_0 (x := nI 0) hW hb rfl]; exact h2.1.symm
theorem BL_neg {σ : Nat → Int32} {a b : Int32} (hG : Good σ) (H : BL σ (nT σ) a b) (h : ¬ 0 ≤ a) : -6 = blR σ (nI 1) := by
  by_cases hW : 0 < Wn σ
  · rw [blR_p hW]
  · exact (blR_n hW (SHo_neg (H.2 (by omega)) (blB_lt hG) (i32_lt h))).symm
theorem BL_pos {σ : Nat → Int32} {a b : Int32} (H : BL σ (nT σ) a b) (h : 0 ≤ a) : b = blR σ (nI 1) := by
  by_cases hW : 0 < Wn σ
  · rw [H.1 hW] at h; exact absurd h (by decide)
  · obtain ⟨c, h1, h2, h3⟩ := SHo_pos (H.2 (by omega)) h
    rw [blR_1 hW h1 (by decide)]; exact h3
/-! the answers -/
theorem hr_in {σ : Nat → Int32} {r : Nat} (h : r < nT σ) (hT : nT σ ≤ 20) : hrx σ (nI r) := ⟨by rw [nI_toInt (by omega)]; omega, by rw [nI_toInt (by omega)]; omega⟩
theorem hb_in {σ : Nat → Int32} {r : Nat} (h : r < nB σ) (hT : nB σ ≤ 6) : hbx σ (nI r) := ⟨by rw [nI_toInt (by omega)]; omega, by rw [nI_toInt (by omega)]; omega⟩
theorem rm_a {σ : Nat → Int32} {r : Nat} {y : Int32} (h : r < nT σ) (hT : nT σ ≤ 20) : (if hrx σ (nI r) then rmF σ (nI r).toNatClampNeg y else -1) = rmF σ r y := by rw [if_pos (hr_in h hT), nI_cl (by omega)]
theorem rm_w {σ : Nat → Int32} {r w : Nat} (h : w < 5) : rmF σ r (nI w) = nI (rk σ r w) := by
  rcases (show w = 0 ∨ w = 1 ∨ w = 2 ∨ w = 3 ∨ w = 4 by omega) with rfl | rfl | rfl | rfl | rfl <;> rfl
theorem ps_a {σ : Nat → Int32} {r : Nat} {y : Int32} (h : r < nB σ) (hT : nB σ ≤ 6) : (if hbx σ (nI r) then psF σ (nI r).toNatClampNeg y else -1) = psF σ r y := by rw [if_pos (hb_in h hT), nI_cl (by omega)]
theorem ps_1 {σ : Nat → Int32} {r : Nat} : psF σ r (nI 1) = σ (9 + r) + nI 1000 := (show psF σ r (nI 1) = nI 1000 + σ (9 + r) from rfl).trans (Int32.add_comm _ _)
theorem ce_a {σ : Nat → Int32} {r : Nat} (h : r < nB σ) (hT : nB σ ≤ 6) : (if hbx σ (nI r) then crF σ (nI r).toNatClampNeg else -1) = crF σ r := by rw [if_pos (hb_in h hT), nI_cl (by omega)]
theorem po_a {σ : Nat → Int32} {r b : Nat} (h : r < nB σ) (hb : b < nB σ) (hT : nB σ ≤ 6) : (if hbx σ (nI r) ∧ hbx σ (nI b) then nI (LKn σ (nI r).toNatClampNeg (nI b).toNatClampNeg) else -1) = nI (LKn σ r b) := by rw [if_pos ⟨hb_in h hT, hb_in hb hT⟩, nI_cl (by omega), nI_cl (by omega)]
theorem wo_a {σ : Nat → Int32} {r : Nat} {x : Int32} (h : r < nB σ) (hT : nB σ ≤ 6) : (if hbx σ (nI r) then wlF σ x (nI r).toNatClampNeg (mM σ) else -1) = wlF σ x r (mM σ) := by rw [if_pos (hb_in h hT), nI_cl (by omega)]
theorem ct_4 {σ : Nat → Int32} {len k : Nat} : ctF σ len k (nI 4) = bI (okB σ (lkf σ) = true) := (show ctF σ len k (nI 4) = bI (∀ i, i < nT σ → bad σ (lkf σ) i = false) from rfl).trans (bI_iff (by unfold okB; exact decide_eq_true_iff.symm))
theorem wl_none {σ : Nat → Int32} {x : Int32} {p : Nat} : ∀ m, (∀ q, q < m → okq σ q = true → ¬ nI (cN (okq σ) q) = x) → wlF σ x p m = -1 := by
  intro m
  induction m with
  | zero => intro _; rfl
  | succ m ih =>
    intro h
    have e : wlF σ x p (m + 1) = if okq σ m = true ∧ nI (cN (okq σ) m) = x then nI (wd (nB σ) m p) else wlF σ x p m := rfl
    rw [e, if_neg (fun y => h m (by omega) y.1 y.2)]
    exact ih (fun q hq => h q (by omega))
theorem wl_end {σ : Nat → Int32} {p : Nat} (hG : Good σ) : wlF σ (nI (Wn σ)) p (mM σ) = -1 := by
  refine wl_none _ (fun q hq hok y => ?_)
  have hM := hG.M
  have h2 := cN_mono (okq σ) (show q + 1 ≤ mM σ by omega)
  rw [cN_t hok] at h2
  have hW := Wn_le hG
  have h3 : cN (okq σ) (mM σ) = Wn σ := rfl
  rw [nI_eq (by omega) (by omega)] at y
  omega
theorem mwP_ge {n : Nat} {w : Nat → Nat} {s : Nat × Nat} : ∀ p, s.2 ≤ (mwP n w s p).2 ∧ ∀ q, q < p → cN (fun i => decide (w i = q)) n ≤ (mwP n w s p).2 := by
  intro p
  induction p with
  | zero => exact ⟨Nat.le_refl _, fun q hq => absurd hq (by omega)⟩
  | succ p ih =>
    obtain ⟨h1, h2⟩ := ih
    unfold mwP
    split
    · rename_i hc
      dsimp only
      have h3 : (mwP n w s p).2 ≤ cN (fun i => decide (w i = p)) n := by omega
      refine ⟨by omega, fun q hq => ?_⟩
      by_cases e : q = p
      · subst e; exact Nat.le_refl _
      · have := h2 q (by omega); omega
    · rename_i hc
      refine ⟨h1, fun q hq => ?_⟩
      by_cases e : q = p
      · subst e; omega
      · exact h2 q (by omega)
theorem mw_0 {σ : Nat → Int32} : ∀ m, cN (okq σ) m = 0 → mwQ σ m = (0, 0) := by
  intro m
  induction m with
  | zero => intro _; rfl
  | succ m ih =>
    intro h
    by_cases e : okq σ m = true
    · rw [cN_t e] at h; omega
    · have e2 : okq σ m = false := Bool.eq_false_iff.mpr e
      rw [cN_f e2] at h
      rw [mwQ_f e2]; exact ih h
theorem mw_p {σ : Nat → Int32} (hG : Good σ) : ∀ m, 0 < cN (okq σ) m → 0 < (mwQ σ m).2 := by
  intro m
  induction m with
  | zero => intro h; exact absurd h (Nat.lt_irrefl 0)
  | succ m ih =>
    intro h
    have h3 := hG.n3
    by_cases e : okq σ m = true
    · rw [mwQ_t e]
      have hw := wd_ok hG.n3 m 0 (by omega)
      have h4 := (mwP_ge (n := nB σ) (w := wd (nB σ) m) (s := mwQ σ m) (nB σ)).2 (wd (nB σ) m 0) hw
      have h5 := cN_pos (p := fun i => decide (wd (nB σ) m i = wd (nB σ) m 0)) (m := nB σ) (i := 0) (by omega) (decide_eq_true rfl)
      omega
    · have e2 : okq σ m = false := Bool.eq_false_iff.mpr e
      rw [cN_f e2] at h
      rw [mwQ_f e2]; exact ih h
theorem mw_a0 {σ : Nat → Int32} {x : Int32} (h : Wn σ = 0) : -6 = mwR σ x := by
  unfold mwR; rw [mw_0 _ h]; rfl
theorem mw_a1 {σ : Nat → Int32} (hG : Good σ) (h : ¬ Wn σ = 0) : nI (mwQ σ (mM σ)).1 = mwR σ (nI 0) := by
  have h2 := mw_p hG (mM σ) (by have : cN (okq σ) (mM σ) = Wn σ := rfl
                                omega)
  unfold mwR; rw [if_neg (by omega)]; rfl
theorem mw_a2 {σ : Nat → Int32} (hG : Good σ) (h : ¬ Wn σ = 0) : nI (mwQ σ (mM σ)).2 = mwR σ (nI 1) := by
  have h2 := mw_p hG (mM σ) (by have : cN (okq σ) (mM σ) = Wn σ := rfl
                                omega)
  unfold mwR; rw [if_neg (by omega)]; rfl
theorem fnd_t {p : Nat → Bool} {m : Nat} (h : p m = true) : nI m = fnd p (m + 1) := by
  have e : fnd p (m + 1) = if p m = true then nI m else fnd p m := rfl
  rw [e, if_pos h]
theorem fnd_f {p : Nat → Bool} {m : Nat} (h : p m = false) : fnd p m = fnd p (m + 1) := by
  have e : fnd p (m + 1) = if p m = true then nI m else fnd p m := rfl
  rw [e, h]; rfl
theorem fnd_or {p : Nat → Bool} : ∀ m, m < 1000 → fnd p m = -6 ∨ 0 ≤ fnd p m := by
  intro m
  induction m with
  | zero => exact fun _ => Or.inl rfl
  | succ m ih =>
    intro hm
    by_cases h : p m = true
    · rw [← fnd_t h]; exact Or.inr ((fz_geN (by omega)).mpr (Nat.zero_le _))
    · rw [← fnd_f (Bool.eq_false_iff.mpr h)]; exact ih (by omega)
theorem cr_ge {σ : Nat → Int32} {p : Nat} (h : 0 ≤ fnd (crt σ p) (nB σ)) : ¬ crF σ p = -6 := fun e => by
  have e2 : fnd (crt σ p) (nB σ) = -6 := e
  rw [e2] at h; exact absurd h (by decide)
theorem cr_lt {σ : Nat → Int32} {p : Nat} (hG : Good σ) (h : ¬ 0 ≤ fnd (crt σ p) (nB σ)) : crF σ p = -6 := by
  have h6 := hG.n6
  exact (fnd_or (nB σ) (by omega)).resolve_right h
/-- the law's own suits -/
abbrev suN (kd a b : Nat) : Prop := 3 < kd ∨ a ≠ b
theorem su_ok {n kd a b : Nat} (hk : kd < 6) (ha : a < n) (h4 : kd = 4 → b < 7) (h5 : kd ≠ 4 → b < n) (h : suN kd a b) : okk n kd a b := by
  have h2 : 3 < kd ∨ a ≠ b := h
  exact ⟨by omega, ha, fun e => by have := h4 e; omega, fun e => ⟨h5 e, by omega⟩⟩
theorem sux_su {n kd a b : Nat} (hn : n ≤ 6) (hk : kd < 6) (ha : a < n) (h4 : kd = 4 → b < 7) (h5 : kd ≠ 4 → b < n) : sux n (nI kd) (nI a) (nI b) ↔ suN kd a b := by
  have hb : b < 7 := by
    by_cases e : kd = 4
    · exact h4 e
    · have := h5 e; omega
  show _ ↔ (3 < kd ∨ a ≠ b)
  unfold sux
  rw [nI_toInt (by omega), nI_toInt (by omega), nI_toInt (by omega)]
  by_cases e : kd = 4
  · have := h4 e; omega
  · have := h5 e; omega
def prv (σ : Nat → Int32) (kd a b m : Nat) : Nat := if suN kd a b then cN (pvn σ kd a b) m else 0
theorem prv_0 {σ : Nat → Int32} {kd a b : Nat} : prv σ kd a b 0 = 0 := by unfold prv; split <;> rfl
theorem prv_skip {σ : Nat → Int32} {kd a b m : Nat} (h : okq σ m = false) : prv σ kd a b (m + 1) = prv σ kd a b m := by
  unfold prv; rw [cN_f (by unfold pvn; rw [h, Bool.and_false])]
theorem prv_no {σ : Nat → Int32} {kd a b m : Nat} (h : ¬ suN kd a b) : prv σ kd a b (m + 1) = prv σ kd a b m := by
  unfold prv; rw [if_neg h, if_neg h]
theorem prv_hit {σ : Nat → Int32} {kd a b m : Nat} (hs : suN kd a b) (h : okq σ m = true) (hh : hd (nB σ) (wd (nB σ) m) kd a b = true) : prv σ kd a b (m + 1) = prv σ kd a b m + 1 := by
  unfold prv; rw [if_pos hs, if_pos hs, cN_t (by unfold pvn; rw [h, hh]; rfl)]
theorem prv_miss {σ : Nat → Int32} {kd a b m : Nat} (hh : ¬ hd (nB σ) (wd (nB σ) m) kd a b = true) : prv σ kd a b (m + 1) = prv σ kd a b m := by
  unfold prv; rw [cN_f (by unfold pvn; rw [Bool.eq_false_iff.mpr hh, Bool.false_and])]
theorem ip_yes {σ : Nat → Int32} {kd a b : Nat} (hn : nB σ ≤ 6) (hk : kd < 6) (ha : a < nB σ) (h4 : kd = 4 → b < 7) (h5 : kd ≠ 4 → b < nB σ) (h : suN kd a b) : (if sux (nB σ) (nI kd) (nI a) (nI b) then nI (cN (pvn σ (nI kd).toNatClampNeg (nI a).toNatClampNeg (nI b).toNatClampNeg) (mM σ)) else -2) = nI (prv σ kd a b (mM σ)) := by
  have hb : b < 7 := by
    by_cases e : kd = 4
    · exact h4 e
    · have := h5 e; omega
  rw [if_pos ((sux_su hn hk ha h4 h5).mpr h), nI_cl (by omega), nI_cl (by omega), nI_cl (by omega)]
  unfold prv; rw [if_pos h]
theorem ip_no {σ : Nat → Int32} {kd a b : Nat} {y : Int32} (hn : nB σ ≤ 6) (hk : kd < 6) (ha : a < nB σ) (h4 : kd = 4 → b < 7) (h5 : kd ≠ 4 → b < nB σ) (h : ¬ suN kd a b) : (if sux (nB σ) (nI kd) (nI a) (nI b) then y else -2) = -2 := if_neg (fun z => h ((sux_su hn hk ha h4 h5).mp z))
theorem WO_gt {h w : Nat} (hle : h ≤ w) (hc : ¬ h * 2 ≤ w) : nI h = nI (max h (w - h)) := congrArg nI (Nat.max_eq_left (by omega)).symm
theorem WO_le {h w : Nat} (hle : h ≤ w) (hc : h * 2 ≤ w) : nI w - nI h = nI (max h (w - h)) := (pk_sub hle).trans (congrArg nI (Nat.max_eq_right (by omega)).symm)

set_option maxRecDepth 100000 in
set_option maxHeartbeats 4000000 in
theorem c_L_same (l : Launch) (g : fG) (N : Nat) (ct : Nat → va_E) (σ : Nat → Int32) (k : Nat) (hs : Nat → Nat → Int32) (u1 : Bool) (s1 : Nat → Int32) (u2 : Bool) (s2 : Nat → Int32) (t : Nat → Nat) (len : Nat) (hN : 246 ≤ N) (hO : OGAt g ct σ k hs u1 s1 u2 s2 t len) (h12 : nT σ ≤ 12) (fr : Nat → Int32) (hcr : ct 242 = .inl (fcI g, 60, .inl fr)) (hR : LR σ fr) (fq : Nat → Int32) (hcq : ct 243 = .inl (fcI g, 3, .inl fq)) (hQ : fq 0 = nI (nB σ) ∧ fq 1 = nI (nT σ)) (hQ3 : fq 2 = σ 2) (fl : Nat → Int32) (hcl : ct 239 = .inl (fcI g, 6, .inl fl)) (hL : ∀ p, p < nB σ → fl p = nI (lkf σ p)) (fsc : Nat → Int32) (hcs : ct 240 = .inl (fcI g, 6, .inl fsc)) (hSc : ∀ p, p < nB σ → fsc p = σ (9 + p)) (fgu : Nat → Int32) (hcg : ct 241 = .inl (fcI g, 6, .inl fgu)) (hGu : ∀ p, p < nB σ → fgu p = σ (15 + p)) (fw : Nat → Int32) (hcw : ct 244 = .inl (fcI g, 6, .inl fw)) (fc : Nat → Int32) (hcc : ct 245 = .inl (fcI g, 51, .inl fc)) (x : Int32) : Met l yL_same (wsU yL_same cL_same 25 (some .boolean)) rL_same (fPre g N ct [.ref (fa g 0), .int x, .ref (fa g 243), .ref (fa g 239), .ref (fa g 240), .ref (fa g 241), .ref (fa g 242), .ref (fa g 244), .ref (fa g 245)]) (fQi g N (fun r ct1 => r = nI 1 ∧ OGAt g ct1 σ k hs u1 s1 u2 s2 t len ∧ RWS g ct1 fl fsc fgu fr fq ∧ (∃ f1 : Nat → Int32, ct1 244 = .inl (fcI g, 6, .inl f1)) ∧ ∃ f2 : Nat → Int32, ct1 245 = .inl (fcI g, 51, .inl f2))) 0 0 (fB g) := by
  refine fs_start (own := RL) (lv0 := [(0, .ref (fa g 0)), (1, .int x), (2, .ref (fa g 243)), (3, .ref (fa g 239)), (4, .ref (fa g 240)), (5, .ref (fa g 241)), (6, .ref (fa g 242)), (7, .ref (fa g 244)), (8, .ref (fa g 245))]) (by decide) rfl (Nat.le_of_ble_eq_true rfl) rfl ?_
  intro p e s m args below meth c ls E hr hlk hnm hP hl hS
  have hx := E.1.1
  have hb := E.1.2.1
  have hG := hO.good
  have hn3 := hG.n3
  have hn6 := hG.n6
  have hM := hG.M
  have hWl := Wn_le hG
  obtain ⟨f7, h7⟩ := hO.obj
  refine lv_iconst (v := (nI 0)) hx hb dL_same_0 (by decide) ?_
  refine lv_istore (lv' := [(9, .int (nI 0)), (0, .ref (fa g 0)), (1, .int x), (2, .ref (fa g 243)), (3, .ref (fa g 239)), (4, .ref (fa g 240)), (5, .ref (fa g 241)), (6, .ref (fa g 242)), (7, .ref (fa g 244)), (8, .ref (fa g 245))]) hx hb dL_same_1 hl (by decide) rfl (fun ls hl => ?_)
  refine lv_iconst (v := (nI 0)) hx hb dL_same_3 (by decide) ?_
  refine lv_istore (lv' := [(10, .int (nI 0)), (9, .int (nI 0)), (0, .ref (fa g 0)), (1, .int x), (2, .ref (fa g 243)), (3, .ref (fa g 239)), (4, .ref (fa g 240)), (5, .ref (fa g 241)), (6, .ref (fa g 242)), (7, .ref (fa g 244)), (8, .ref (fa g 245))]) hx hb dL_same_4 hl (by decide) rfl (fun ls hl => ?_)
  refine lv_iconst (v := (nI 0)) hx hb dL_same_6 (by decide) ?_
  refine lv_istore (lv' := [(11, .int (nI 0)), (10, .int (nI 0)), (9, .int (nI 0)), (0, .ref (fa g 0)), (1, .int x), (2, .ref (fa g 243)), (3, .ref (fa g 239)), (4, .ref (fa g 240)), (5, .ref (fa g 241)), (6, .ref (fa g 242)), (7, .ref (fa g 244)), (8, .ref (fa g 245))]) hx hb dL_same_7 hl (by decide) rfl (fun ls hl => ?_)
  refine lv_iconst (v := (nI 0)) hx hb dL_same_9 (by decide) ?_
  refine lv_istore (lv' := [(12, .int (nI 0)), (11, .int (nI 0)), (10, .int (nI 0)), (9, .int (nI 0)), (0, .ref (fa g 0)), (1, .int x), (2, .ref (fa g 243)), (3, .ref (fa g 239)), (4, .ref (fa g 240)), (5, .ref (fa g 241)), (6, .ref (fa g 242)), (7, .ref (fa g 244)), (8, .ref (fa g 245))]) hx hb dL_same_10 hl (by decide) rfl (fun ls hl => ?_)
  refine lv_bipush (v := (-6)) hx hb dL_same_12 (by decide) ?_
  refine lv_istore (lv' := [(13, .int (-6)), (12, .int (nI 0)), (11, .int (nI 0)), (10, .int (nI 0)), (9, .int (nI 0)), (0, .ref (fa g 0)), (1, .int x), (2, .ref (fa g 243)), (3, .ref (fa g 239)), (4, .ref (fa g 240)), (5, .ref (fa g 241)), (6, .ref (fa g 242)), (7, .ref (fa g 244)), (8, .ref (fa g 245))]) hx hb dL_same_14 hl (by decide) rfl (fun ls hl => ?_)
  refine lv_iconst (v := (nI 0)) hx hb dL_same_16 (by decide) ?_
  refine lv_istore (lv' := [(14, .int (nI 0)), (13, .int (-6)), (12, .int (nI 0)), (11, .int (nI 0)), (10, .int (nI 0)), (9, .int (nI 0)), (0, .ref (fa g 0)), (1, .int x), (2, .ref (fa g 243)), (3, .ref (fa g 239)), (4, .ref (fa g 240)), (5, .ref (fa g 241)), (6, .ref (fa g 242)), (7, .ref (fa g 244)), (8, .ref (fa g 245))]) hx hb dL_same_17 hl (by decide) rfl (fun ls hl => ?_)
  refine lv_bipush (v := (-6)) hx hb dL_same_19 (by decide) ?_
  refine lv_istore (lv' := [(15, .int (-6)), (14, .int (nI 0)), (13, .int (-6)), (12, .int (nI 0)), (11, .int (nI 0)), (10, .int (nI 0)), (9, .int (nI 0)), (0, .ref (fa g 0)), (1, .int x), (2, .ref (fa g 243)), (3, .ref (fa g 239)), (4, .ref (fa g 240)), (5, .ref (fa g 241)), (6, .ref (fa g 242)), (7, .ref (fa g 244)), (8, .ref (fa g 245))]) hx hb dL_same_21 hl (by decide) rfl (fun ls hl => ?_)
  refine lv_iconst (v := (nI 0)) hx hb dL_same_23 (by decide) ?_
  refine lv_istore (lv' := [(16, .int (nI 0)), (15, .int (-6)), (14, .int (nI 0)), (13, .int (-6)), (12, .int (nI 0)), (11, .int (nI 0)), (10, .int (nI 0)), (9, .int (nI 0)), (0, .ref (fa g 0)), (1, .int x), (2, .ref (fa g 243)), (3, .ref (fa g 239)), (4, .ref (fa g 240)), (5, .ref (fa g 241)), (6, .ref (fa g 242)), (7, .ref (fa g 244)), (8, .ref (fa g 245))]) hx hb dL_same_24 hl (by decide) rfl (fun ls hl => ?_)
  refine lv_aload_n hx hb dL_same_26 rfl (lv_at hl 10 rfl) ?_
  refine lv_aload hx hb dL_same_27 (lv_at hl 14 rfl) ?_
  refine lv_aload hx hb dL_same_29 (lv_at hl 15 rfl) ?_
  refine lv_aload hx hb dL_same_31 (lv_at hl 16 rfl) ?_
  refine fs_v (va_runS (As := [.ref (fa g 243), .ref (fa g 242), .ref (fa g 244), .ref (fa g 245)]) (rest := []) E.1 (c_L_all l g N ct σ (by omega) hG h12 fr hcr hR fq hcq hQ fw hcw fc hcc) (lk_RL_32 E.1.2.2.2.2 ⟨Nat.le_of_ble_eq_true rfl, Nat.le_of_ble_eq_true rfl⟩) (fpreS E hP hS) rfl rfl hl.1 rfl (lv_room (Nat.le_of_ble_eq_true rfl)) dL_same_33 ⟨Nat.zero_le _, Nat.zero_le _⟩) hS (fun ct_1 H locs p_33 hP hS => ?_)
  obtain ⟨⟨fw2, hw2⟩, ⟨fC, h45, hCO⟩, hs2⟩ := p_33
  have h_2 : ct_1 0 = .inr (7, f7) := ((hs2 0 (by omega))).trans h7
  have h_3 : ct_1 239 = .inl (fcI g, 6, .inl fl) := ((hs2 239 (by omega))).trans hcl
  have h_4 : ct_1 240 = .inl (fcI g, 6, .inl fsc) := ((hs2 240 (by omega))).trans hcs
  have h_5 : ct_1 241 = .inl (fcI g, 6, .inl fgu) := ((hs2 241 (by omega))).trans hcg
  have h_6 : ct_1 242 = .inl (fcI g, 60, .inl fr) := ((hs2 242 (by omega))).trans hcr
  have h_7 : ct_1 243 = .inl (fcI g, 3, .inl fq) := ((hs2 243 (by omega))).trans hcq
  have hO_8 : OGAt g ct_1 σ k hs u1 s1 u2 s2 t len := OGAt.keep hO (fun j h1 => hs2 j (by omega))
  obtain ⟨f7_9, h7_10⟩ := hO_8.obj
  refine lv_iconst (v := (nI 0)) hx hb dL_same_36 (by decide) ?_
  refine lv_istore (lv' := [(17, .int (nI 0)), (16, .int (nI 0)), (15, .int (-6)), (14, .int (nI 0)), (13, .int (-6)), (12, .int (nI 0)), (11, .int (nI 0)), (10, .int (nI 0)), (9, .int (nI 0)), (0, .ref (fa g 0)), (1, .int x), (2, .ref (fa g 243)), (3, .ref (fa g 239)), (4, .ref (fa g 240)), (5, .ref (fa g 241)), (6, .ref (fa g 242)), (7, .ref (fa g 244)), (8, .ref (fa g 245))]) hx hb dL_same_37 hl (by decide) rfl (fun ls hl => ?_)
  refine fs_ind (g := g) (N := N) (St := Nat × Int32 × Int32 × Int32 × Int32) (fun (st : Nat × Int32 × Int32 × Int32 × Int32) (ct_11 : Nat → va_E) (ls : Array Slot) => match st with | (r0, sh, le, bl, mo) => lv_has ls 25 [(0, .ref (fa g 0)), (1, .int x), (2, .ref (fa g 243)), (3, .ref (fa g 239)), (4, .ref (fa g 240)), (5, .ref (fa g 241)), (6, .ref (fa g 242)), (7, .ref (fa g 244)), (8, .ref (fa g 245)), (9, .int (nI (cN (opn σ) r0))), (10, .int (nI (cN (srF σ) r0))), (11, .int (nI (cN (nvF σ) r0))), (12, .int (nI 0)), (13, .int sh), (14, .int le), (15, .int bl), (16, .int mo), (17, .int (nI r0))] ∧ r0 ≤ nT σ ∧ SH σ r0 sh le ∧ BL σ r0 bl mo ∧ OGAt g ct_11 σ k hs u1 s1 u2 s2 t len ∧ RWS g ct_11 fl fsc fgu fr fq ∧ (∃ fw : Nat → Int32, ct_11 244 = .inl (fcI g, 6, .inl fw)) ∧ ct_11 245 = .inl (fcI g, 51, .inl fC)) (fun (st : Nat × Int32 × Int32 × Int32 × Int32) => match st with | (r0, sh, le, bl, mo) => nT σ - r0) ?_ (0, -6, nI 0, -6, nI 0) _ _ ls _ ⟨lv_sub hl [9, 10, 11, 12, 13, 14, 15, 16, 17, 8, 7, 6, 5, 4, 3, 2, 1, 0] rfl, Nat.zero_le _, SH_0, BL_0, hO_8, ⟨h_3, h_4, h_5, h_6, h_7⟩, ⟨_, hw2⟩, h45⟩ hP hS
  clear hl hP hS
  intro st ct_11 H ls locs hI hP hS ih1
  obtain ⟨r0, sh, le, bl, mo⟩ := st
  dsimp only at hI ih1
  obtain ⟨hl, hI⟩ := hI
  obtain ⟨hr0, hSH, hBL, hO, ⟨h39, h40, h41, h42, h43⟩, ⟨fw, h44⟩, h45⟩ := hI
  obtain ⟨f7, h7⟩ := hO.obj
  refine lv_iload hx hb dL_same_39 (lv_at hl 17 rfl) ?_
  refine lv_aload_n hx hb dL_same_41 rfl (lv_at hl 2 rfl) ?_
  refine lv_iconst (v := (nI 1)) hx hb dL_same_42 (by decide) ?_
  refine fs_iald E hP (k := 243) h43 (by omega) (vp_in_nI (by omega) (by omega)) dL_same_43 ?_
  refine fs_vi (y := fq 1) (congrArg fq (nI_clamp (by omega))) ?_
  refine fs_vi (y := (nI (nT σ))) hQ.2 ?_
  refine lv_icmp_ge (tgt := 323) hx hb dL_same_44 (by decide) (fun c_44 => ?_) (fun c_44 => ?_)
  · rw [nI_leI (by omega) (by omega)] at c_44
    obtain rfl : r0 = nT σ := by omega
    refine lv_iconst (v := (nI 0)) hx hb dL_same_323 (by decide) ?_
    refine lv_istore (lv' := [(17, .int (nI 0)), (0, .ref (fa g 0)), (1, .int x), (2, .ref (fa g 243)), (3, .ref (fa g 239)), (4, .ref (fa g 240)), (5, .ref (fa g 241)), (6, .ref (fa g 242)), (7, .ref (fa g 244)), (8, .ref (fa g 245)), (9, .int (nI (cN (opn σ) (nT σ)))), (10, .int (nI (cN (srF σ) (nT σ)))), (11, .int (nI (cN (nvF σ) (nT σ)))), (12, .int (nI 0)), (13, .int sh), (14, .int le), (15, .int bl), (16, .int mo)]) hx hb dL_same_324 hl (by decide) rfl (fun ls hl => ?_)
    refine fs_ind (g := g) (N := N) (St := Nat) (fun (i : Nat) (ct_12 : Nat → va_E) (ls : Array Slot) => lv_has ls 25 [(0, .ref (fa g 0)), (1, .int x), (2, .ref (fa g 243)), (3, .ref (fa g 239)), (4, .ref (fa g 240)), (5, .ref (fa g 241)), (6, .ref (fa g 242)), (7, .ref (fa g 244)), (8, .ref (fa g 245)), (9, .int (nI (cN (opn σ) (nT σ)))), (10, .int (nI (cN (srF σ) (nT σ)))), (11, .int (nI (cN (nvF σ) (nT σ)))), (12, .int (nI (cN (ceF σ) i))), (13, .int sh), (14, .int le), (15, .int bl), (16, .int mo), (17, .int (nI i))] ∧ i ≤ nB σ ∧ OGAt g ct_12 σ k hs u1 s1 u2 s2 t len ∧ RWS g ct_12 fl fsc fgu fr fq ∧ (∃ fw : Nat → Int32, ct_12 244 = .inl (fcI g, 6, .inl fw)) ∧ ct_12 245 = .inl (fcI g, 51, .inl fC)) (fun (i : Nat) => nB σ - i) ?_ 0 _ _ ls _ ⟨lv_sub hl [1, 2, 3, 4, 5, 6, 7, 8, 9, 10, 11, 12, 13, 14, 15, 16, 17, 0] rfl, Nat.zero_le _, hO, ⟨h39, h40, h41, h42, h43⟩, ⟨_, h44⟩, h45⟩ hP hS
    clear hl hP hS
    intro st ct_12 H ls locs hI hP hS ih3
    obtain ⟨i, rfl⟩ : ∃ z, z = st := ⟨_, rfl⟩
    obtain ⟨hl, hI⟩ := hI
    obtain ⟨hi, hO, ⟨h39, h40, h41, h42, h43⟩, ⟨fw, h44⟩, h45⟩ := hI
    obtain ⟨f7, h7⟩ := hO.obj
    refine lv_iload hx hb dL_same_326 (lv_at hl 17 rfl) ?_
    refine lv_aload_n hx hb dL_same_328 rfl (lv_at hl 2 rfl) ?_
    refine lv_iconst (v := (nI 0)) hx hb dL_same_329 (by decide) ?_
    refine fs_iald E hP (k := 243) h43 (by omega) (vp_in_nI (by omega) (by omega)) dL_same_330 ?_
    refine fs_vi (y := fq 0) (congrArg fq (nI_clamp (by omega))) ?_
    refine fs_vi (y := (nI (nB σ))) hQ.1 ?_
    refine lv_icmp_ge (tgt := 638) hx hb dL_same_331 (by decide) (fun c_331 => ?_) (fun c_331 => ?_)
    · rw [nI_leI (by omega) (by omega)] at c_331
      obtain rfl : i = nB σ := by omega
      refine lv_aload_n hx hb dL_same_638 rfl (lv_at hl 0 rfl) ?_
      refine lv_iconst (v := (nI 0)) hx hb dL_same_639 (by decide) ?_
      refine fs_i (va_runV (As := [.int (nI 0)]) (rest := []) E.1 (c_X7_count l g N ct_12 σ k hs u1 s1 u2 s2 t len (by omega) hO (nI 0)) (lk_RL_56 E.1.2.2.2.2 ⟨Nat.le_of_ble_eq_true rfl, Nat.le_of_ble_eq_true rfl⟩) (fpreV E hP hS fc7 h7 (by omega)) rfl rfl hl.1 rfl (lv_room (Nat.le_of_ble_eq_true rfl)) dL_same_640 ⟨Nat.zero_le _, Nat.zero_le _⟩) hS (fun r_640 ct_13 H locs p_640 hP hS => ?_)
      have h_14 : ct_13 239 = .inl (fcI g, 6, .inl fl) := ((p_640.2.2 239 (by omega))).trans h39
      have h_15 : ct_13 240 = .inl (fcI g, 6, .inl fsc) := ((p_640.2.2 240 (by omega))).trans h40
      have h_16 : ct_13 241 = .inl (fcI g, 6, .inl fgu) := ((p_640.2.2 241 (by omega))).trans h41
      have h_17 : ct_13 242 = .inl (fcI g, 60, .inl fr) := ((p_640.2.2 242 (by omega))).trans h42
      have h_18 : ct_13 243 = .inl (fcI g, 3, .inl fq) := ((p_640.2.2 243 (by omega))).trans h43
      have h_19 : ct_13 244 = .inl (fcI g, 6, .inl fw) := ((p_640.2.2 244 (by omega))).trans h44
      have h_20 : ct_13 245 = .inl (fcI g, 51, .inl fC) := ((p_640.2.2 245 (by omega))).trans h45
      have hO_21 : OGAt g ct_13 σ k hs u1 s1 u2 s2 t len := p_640.2.1
      obtain ⟨f7_22, h7_23⟩ := hO_21.obj
      refine fs_vi (y := (nI (nB σ))) (p_640.1.trans (rfl)) ?_
      refine lv_aload_n hx hb dL_same_643 rfl (lv_at hl 2 rfl) ?_
      refine lv_iconst (v := (nI 0)) hx hb dL_same_644 (by decide) ?_
      refine fs_iald E hP (k := 243) h_18 (by omega) (vp_in_nI (by omega) (by omega)) dL_same_645 ?_
      refine fs_vi (y := fq 0) (congrArg fq (nI_clamp (by omega))) ?_
      refine fs_vi (y := (nI (nB σ))) hQ.1 ?_
      refine lv_icmp_ne (tgt := 750) hx hb dL_same_646 (by decide) (fun c_646 => ?_) (fun c_646 => ?_)
      · exact absurd rfl c_646
      refine lv_aload_n hx hb dL_same_649 rfl (lv_at hl 0 rfl) ?_
      refine lv_iconst (v := (nI 1)) hx hb dL_same_650 (by decide) ?_
      refine fs_i (va_runV (As := [.int (nI 1)]) (rest := []) E.1 (c_X7_count l g N ct_13 σ k hs u1 s1 u2 s2 t len (by omega) hO_21 (nI 1)) (lk_RL_56 E.1.2.2.2.2 ⟨Nat.le_of_ble_eq_true rfl, Nat.le_of_ble_eq_true rfl⟩) (fpreV E hP hS fc7 h7_23 (by omega)) rfl rfl hl.1 rfl (lv_room (Nat.le_of_ble_eq_true rfl)) dL_same_651 ⟨Nat.zero_le _, Nat.zero_le _⟩) hS (fun r_651 ct_24 H locs p_651 hP hS => ?_)
      have h_25 : ct_24 239 = .inl (fcI g, 6, .inl fl) := ((p_651.2.2 239 (by omega))).trans h_14
      have h_26 : ct_24 240 = .inl (fcI g, 6, .inl fsc) := ((p_651.2.2 240 (by omega))).trans h_15
      have h_27 : ct_24 241 = .inl (fcI g, 6, .inl fgu) := ((p_651.2.2 241 (by omega))).trans h_16
      have h_28 : ct_24 242 = .inl (fcI g, 60, .inl fr) := ((p_651.2.2 242 (by omega))).trans h_17
      have h_29 : ct_24 243 = .inl (fcI g, 3, .inl fq) := ((p_651.2.2 243 (by omega))).trans h_18
      have h_30 : ct_24 244 = .inl (fcI g, 6, .inl fw) := ((p_651.2.2 244 (by omega))).trans h_19
      have h_31 : ct_24 245 = .inl (fcI g, 51, .inl fC) := ((p_651.2.2 245 (by omega))).trans h_20
      have hO_32 : OGAt g ct_24 σ k hs u1 s1 u2 s2 t len := p_651.2.1
      obtain ⟨f7_33, h7_34⟩ := hO_32.obj
      refine fs_vi (y := (nI (nT σ))) (p_651.1.trans (rfl)) ?_
      refine lv_aload_n hx hb dL_same_654 rfl (lv_at hl 2 rfl) ?_
      refine lv_iconst (v := (nI 1)) hx hb dL_same_655 (by decide) ?_
      refine fs_iald E hP (k := 243) h_29 (by omega) (vp_in_nI (by omega) (by omega)) dL_same_656 ?_
      refine fs_vi (y := fq 1) (congrArg fq (nI_clamp (by omega))) ?_
      refine fs_vi (y := (nI (nT σ))) hQ.2 ?_
      refine lv_icmp_ne (tgt := 750) hx hb dL_same_657 (by decide) (fun c_657 => ?_) (fun c_657 => ?_)
      · exact absurd rfl c_657
      refine lv_aload_n hx hb dL_same_660 rfl (lv_at hl 0 rfl) ?_
      refine lv_iconst (v := (nI 2)) hx hb dL_same_661 (by decide) ?_
      refine fs_i (va_runV (As := [.int (nI 2)]) (rest := []) E.1 (c_X7_count l g N ct_24 σ k hs u1 s1 u2 s2 t len (by omega) hO_32 (nI 2)) (lk_RL_56 E.1.2.2.2.2 ⟨Nat.le_of_ble_eq_true rfl, Nat.le_of_ble_eq_true rfl⟩) (fpreV E hP hS fc7 h7_34 (by omega)) rfl rfl hl.1 rfl (lv_room (Nat.le_of_ble_eq_true rfl)) dL_same_662 ⟨Nat.zero_le _, Nat.zero_le _⟩) hS (fun r_662 ct_35 H locs p_662 hP hS => ?_)
      have h_36 : ct_35 239 = .inl (fcI g, 6, .inl fl) := ((p_662.2.2 239 (by omega))).trans h_25
      have h_37 : ct_35 240 = .inl (fcI g, 6, .inl fsc) := ((p_662.2.2 240 (by omega))).trans h_26
      have h_38 : ct_35 241 = .inl (fcI g, 6, .inl fgu) := ((p_662.2.2 241 (by omega))).trans h_27
      have h_39 : ct_35 242 = .inl (fcI g, 60, .inl fr) := ((p_662.2.2 242 (by omega))).trans h_28
      have h_40 : ct_35 243 = .inl (fcI g, 3, .inl fq) := ((p_662.2.2 243 (by omega))).trans h_29
      have h_41 : ct_35 244 = .inl (fcI g, 6, .inl fw) := ((p_662.2.2 244 (by omega))).trans h_30
      have h_42 : ct_35 245 = .inl (fcI g, 51, .inl fC) := ((p_662.2.2 245 (by omega))).trans h_31
      have hO_43 : OGAt g ct_35 σ k hs u1 s1 u2 s2 t len := p_662.2.1
      obtain ⟨f7_44, h7_45⟩ := hO_43.obj
      refine fs_vi (y := (nI (cN (opn σ) (nT σ)))) (p_662.1.trans (rfl)) ?_
      refine lv_iload hx hb dL_same_665 (lv_at hl 9 rfl) ?_
      refine lv_icmp_ne (tgt := 750) hx hb dL_same_667 (by decide) (fun c_667 => ?_) (fun c_667 => ?_)
      · exact absurd rfl c_667
      refine lv_aload_n hx hb dL_same_670 rfl (lv_at hl 0 rfl) ?_
      refine lv_iconst (v := (nI 3)) hx hb dL_same_671 (by decide) ?_
      refine fs_i (va_runV (As := [.int (nI 3)]) (rest := []) E.1 (c_X7_count l g N ct_35 σ k hs u1 s1 u2 s2 t len (by omega) hO_43 (nI 3)) (lk_RL_56 E.1.2.2.2.2 ⟨Nat.le_of_ble_eq_true rfl, Nat.le_of_ble_eq_true rfl⟩) (fpreV E hP hS fc7 h7_45 (by omega)) rfl rfl hl.1 rfl (lv_room (Nat.le_of_ble_eq_true rfl)) dL_same_672 ⟨Nat.zero_le _, Nat.zero_le _⟩) hS (fun r_672 ct_46 H locs p_672 hP hS => ?_)
      have h_47 : ct_46 239 = .inl (fcI g, 6, .inl fl) := ((p_672.2.2 239 (by omega))).trans h_36
      have h_48 : ct_46 240 = .inl (fcI g, 6, .inl fsc) := ((p_672.2.2 240 (by omega))).trans h_37
      have h_49 : ct_46 241 = .inl (fcI g, 6, .inl fgu) := ((p_672.2.2 241 (by omega))).trans h_38
      have h_50 : ct_46 242 = .inl (fcI g, 60, .inl fr) := ((p_672.2.2 242 (by omega))).trans h_39
      have h_51 : ct_46 243 = .inl (fcI g, 3, .inl fq) := ((p_672.2.2 243 (by omega))).trans h_40
      have h_52 : ct_46 244 = .inl (fcI g, 6, .inl fw) := ((p_672.2.2 244 (by omega))).trans h_41
      have h_53 : ct_46 245 = .inl (fcI g, 51, .inl fC) := ((p_672.2.2 245 (by omega))).trans h_42
      have hO_54 : OGAt g ct_46 σ k hs u1 s1 u2 s2 t len := p_672.2.1
      obtain ⟨f7_55, h7_56⟩ := hO_54.obj
      refine fs_vi (y := (nI (Wn σ))) (p_672.1.trans (rfl)) ?_
      refine lv_aload hx hb dL_same_675 (lv_at hl 8 rfl) ?_
      refine lv_iconst (v := (nI 0)) hx hb dL_same_677 (by decide) ?_
      refine fs_iald E hP (k := 245) h_53 (by omega) (vp_in_nI (by omega) (by omega)) dL_same_678 ?_
      refine fs_vi (y := fC 0) (congrArg fC (nI_clamp (by omega))) ?_
      refine fs_vi (y := (nI (Wn σ))) hCO.1 ?_
      refine lv_icmp_ne (tgt := 750) hx hb dL_same_679 (by decide) (fun c_679 => ?_) (fun c_679 => ?_)
      · exact absurd rfl c_679
      refine lv_aload_n hx hb dL_same_682 rfl (lv_at hl 0 rfl) ?_
      refine lv_iconst (v := (nI 4)) hx hb dL_same_683 (by decide) ?_
      refine fs_i (va_runV (As := [.int (nI 4)]) (rest := []) E.1 (c_X7_count l g N ct_46 σ k hs u1 s1 u2 s2 t len (by omega) hO_54 (nI 4)) (lk_RL_56 E.1.2.2.2.2 ⟨Nat.le_of_ble_eq_true rfl, Nat.le_of_ble_eq_true rfl⟩) (fpreV E hP hS fc7 h7_56 (by omega)) rfl rfl hl.1 rfl (lv_room (Nat.le_of_ble_eq_true rfl)) dL_same_684 ⟨Nat.zero_le _, Nat.zero_le _⟩) hS (fun r_684 ct_57 H locs p_684 hP hS => ?_)
      have h_58 : ct_57 239 = .inl (fcI g, 6, .inl fl) := ((p_684.2.2 239 (by omega))).trans h_47
      have h_59 : ct_57 240 = .inl (fcI g, 6, .inl fsc) := ((p_684.2.2 240 (by omega))).trans h_48
      have h_60 : ct_57 241 = .inl (fcI g, 6, .inl fgu) := ((p_684.2.2 241 (by omega))).trans h_49
      have h_61 : ct_57 242 = .inl (fcI g, 60, .inl fr) := ((p_684.2.2 242 (by omega))).trans h_50
      have h_62 : ct_57 243 = .inl (fcI g, 3, .inl fq) := ((p_684.2.2 243 (by omega))).trans h_51
      have h_63 : ct_57 244 = .inl (fcI g, 6, .inl fw) := ((p_684.2.2 244 (by omega))).trans h_52
      have h_64 : ct_57 245 = .inl (fcI g, 51, .inl fC) := ((p_684.2.2 245 (by omega))).trans h_53
      have hO_65 : OGAt g ct_57 σ k hs u1 s1 u2 s2 t len := p_684.2.1
      obtain ⟨f7_66, h7_67⟩ := hO_65.obj
      refine fs_vi (y := (bI (okB σ (lkf σ) = true))) (p_684.1.trans (ct_4)) ?_
      refine lv_aload_n hx hb dL_same_687 rfl (lv_at hl 2 rfl) ?_
      refine lv_aload hx hb dL_same_688 (lv_at hl 6 rfl) ?_
      refine lv_aload_n hx hb dL_same_690 rfl (lv_at hl 3 rfl) ?_
      refine lv_iconst (v := (-1)) hx hb dL_same_691 (by decide) ?_
      refine fs_pi (va_runS (As := [.ref (fa g 243), .ref (fa g 242), .ref (fa g 239), .int (-1)]) (rest := [.int (bI (okB σ (lkf σ) = true))]) E.1 (c_L_may l g N ct_57 σ (by omega) hG h12 fr h_61 hR fq h_62 hQ 239 fl (lkf σ) (by omega) hL hG.wok h_58 (-1)) (lk_RL_24 E.1.2.2.2.2 ⟨Nat.le_of_ble_eq_true rfl, Nat.le_of_ble_eq_true rfl⟩) (fpreS E hP hS) rfl rfl hl.1 rfl (lv_room (Nat.le_of_ble_eq_true rfl)) dL_same_692 ⟨Nat.zero_le _, Nat.zero_le _⟩) hS (fun r_692 locs p_692 hS => ?_)
      have p30 := p_692.trans (bI_iff (may_m1 (by omega)))
      refine fs_cutS (g := g) (F0 m 703 ls [.int (bI (okB σ (lkf σ) = true)) , .int (bI (okB σ (lkf σ) = true))]) (fun locs hS => ?_) (fun K_703 => ?_)
      · skip
        refine lv_icmp_ne (tgt := 750) hx hb dL_same_703 (by decide) (fun c_703 => ?_) (fun c_703 => ?_)
        · exact absurd rfl c_703
        refine lv_aload_n hx hb dL_same_706 rfl (lv_at hl 0 rfl) ?_
        refine lv_iconst (v := (nI 5)) hx hb dL_same_707 (by decide) ?_
        refine fs_i (va_runV (As := [.int (nI 5)]) (rest := []) E.1 (c_X7_count l g N ct_57 σ k hs u1 s1 u2 s2 t len (by omega) hO_65 (nI 5)) (lk_RL_56 E.1.2.2.2.2 ⟨Nat.le_of_ble_eq_true rfl, Nat.le_of_ble_eq_true rfl⟩) (fpreV E hP hS fc7 h7_67 (by omega)) rfl rfl hl.1 rfl (lv_room (Nat.le_of_ble_eq_true rfl)) dL_same_708 ⟨Nat.zero_le _, Nat.zero_le _⟩) hS (fun r_708 ct_68 H locs p_708 hP hS => ?_)
        have h_69 : ct_68 239 = .inl (fcI g, 6, .inl fl) := ((p_708.2.2 239 (by omega))).trans h_58
        have h_70 : ct_68 240 = .inl (fcI g, 6, .inl fsc) := ((p_708.2.2 240 (by omega))).trans h_59
        have h_71 : ct_68 241 = .inl (fcI g, 6, .inl fgu) := ((p_708.2.2 241 (by omega))).trans h_60
        have h_72 : ct_68 242 = .inl (fcI g, 60, .inl fr) := ((p_708.2.2 242 (by omega))).trans h_61
        have h_73 : ct_68 243 = .inl (fcI g, 3, .inl fq) := ((p_708.2.2 243 (by omega))).trans h_62
        have h_74 : ct_68 244 = .inl (fcI g, 6, .inl fw) := ((p_708.2.2 244 (by omega))).trans h_63
        have h_75 : ct_68 245 = .inl (fcI g, 51, .inl fC) := ((p_708.2.2 245 (by omega))).trans h_64
        have hO_76 : OGAt g ct_68 σ k hs u1 s1 u2 s2 t len := p_708.2.1
        obtain ⟨f7_77, h7_78⟩ := hO_76.obj
        refine fs_vi (y := (σ 2)) (p_708.1.trans (rfl)) ?_
        refine lv_aload_n hx hb dL_same_711 rfl (lv_at hl 2 rfl) ?_
        refine lv_iconst (v := (nI 2)) hx hb dL_same_712 (by decide) ?_
        refine fs_iald E hP (k := 243) h_73 (by omega) (vp_in_nI (by omega) (by omega)) dL_same_713 ?_
        refine fs_vi (y := fq 2) (congrArg fq (nI_clamp (by omega))) ?_
        refine fs_vi (y := (σ 2)) hQ3 ?_
        refine lv_icmp_ne (tgt := 750) hx hb dL_same_714 (by decide) (fun c_714 => ?_) (fun c_714 => ?_)
        · exact absurd rfl c_714
        refine lv_aload_n hx hb dL_same_717 rfl (lv_at hl 0 rfl) ?_
        refine lv_bipush (v := (nI 6)) hx hb dL_same_718 (by decide) ?_
        refine fs_i (va_runV (As := [.int (nI 6)]) (rest := []) E.1 (c_X7_count l g N ct_68 σ k hs u1 s1 u2 s2 t len (by omega) hO_76 (nI 6)) (lk_RL_56 E.1.2.2.2.2 ⟨Nat.le_of_ble_eq_true rfl, Nat.le_of_ble_eq_true rfl⟩) (fpreV E hP hS fc7 h7_78 (by omega)) rfl rfl hl.1 rfl (lv_room (Nat.le_of_ble_eq_true rfl)) dL_same_720 ⟨Nat.zero_le _, Nat.zero_le _⟩) hS (fun r_720 ct_79 H locs p_720 hP hS => ?_)
        have h_80 : ct_79 239 = .inl (fcI g, 6, .inl fl) := ((p_720.2.2 239 (by omega))).trans h_69
        have h_81 : ct_79 240 = .inl (fcI g, 6, .inl fsc) := ((p_720.2.2 240 (by omega))).trans h_70
        have h_82 : ct_79 241 = .inl (fcI g, 6, .inl fgu) := ((p_720.2.2 241 (by omega))).trans h_71
        have h_83 : ct_79 242 = .inl (fcI g, 60, .inl fr) := ((p_720.2.2 242 (by omega))).trans h_72
        have h_84 : ct_79 243 = .inl (fcI g, 3, .inl fq) := ((p_720.2.2 243 (by omega))).trans h_73
        have h_85 : ct_79 244 = .inl (fcI g, 6, .inl fw) := ((p_720.2.2 244 (by omega))).trans h_74
        have h_86 : ct_79 245 = .inl (fcI g, 51, .inl fC) := ((p_720.2.2 245 (by omega))).trans h_75
        have hO_87 : OGAt g ct_79 σ k hs u1 s1 u2 s2 t len := p_720.2.1
        obtain ⟨f7_88, h7_89⟩ := hO_87.obj
        refine fs_vi (y := (nI (cN (ceF σ) (nB σ)))) (p_720.1.trans (rfl)) ?_
        refine lv_iload hx hb dL_same_723 (lv_at hl 12 rfl) ?_
        refine lv_icmp_ne (tgt := 750) hx hb dL_same_725 (by decide) (fun c_725 => ?_) (fun c_725 => ?_)
        · exact absurd rfl c_725
        refine lv_aload_n hx hb dL_same_728 rfl (lv_at hl 0 rfl) ?_
        refine lv_bipush (v := (nI 7)) hx hb dL_same_729 (by decide) ?_
        refine fs_i (va_runV (As := [.int (nI 7)]) (rest := []) E.1 (c_X7_count l g N ct_79 σ k hs u1 s1 u2 s2 t len (by omega) hO_87 (nI 7)) (lk_RL_56 E.1.2.2.2.2 ⟨Nat.le_of_ble_eq_true rfl, Nat.le_of_ble_eq_true rfl⟩) (fpreV E hP hS fc7 h7_89 (by omega)) rfl rfl hl.1 rfl (lv_room (Nat.le_of_ble_eq_true rfl)) dL_same_731 ⟨Nat.zero_le _, Nat.zero_le _⟩) hS (fun r_731 ct_90 H locs p_731 hP hS => ?_)
        have h_91 : ct_90 239 = .inl (fcI g, 6, .inl fl) := ((p_731.2.2 239 (by omega))).trans h_80
        have h_92 : ct_90 240 = .inl (fcI g, 6, .inl fsc) := ((p_731.2.2 240 (by omega))).trans h_81
        have h_93 : ct_90 241 = .inl (fcI g, 6, .inl fgu) := ((p_731.2.2 241 (by omega))).trans h_82
        have h_94 : ct_90 242 = .inl (fcI g, 60, .inl fr) := ((p_731.2.2 242 (by omega))).trans h_83
        have h_95 : ct_90 243 = .inl (fcI g, 3, .inl fq) := ((p_731.2.2 243 (by omega))).trans h_84
        have h_96 : ct_90 244 = .inl (fcI g, 6, .inl fw) := ((p_731.2.2 244 (by omega))).trans h_85
        have h_97 : ct_90 245 = .inl (fcI g, 51, .inl fC) := ((p_731.2.2 245 (by omega))).trans h_86
        have hO_98 : OGAt g ct_90 σ k hs u1 s1 u2 s2 t len := p_731.2.1
        obtain ⟨f7_99, h7_100⟩ := hO_98.obj
        refine fs_vi (y := (nI (cN (srF σ) (nT σ)))) (p_731.1.trans (rfl)) ?_
        refine lv_iload hx hb dL_same_734 (lv_at hl 10 rfl) ?_
        refine lv_icmp_ne (tgt := 750) hx hb dL_same_736 (by decide) (fun c_736 => ?_) (fun c_736 => ?_)
        · exact absurd rfl c_736
        refine lv_aload_n hx hb dL_same_739 rfl (lv_at hl 0 rfl) ?_
        refine lv_bipush (v := (nI 8)) hx hb dL_same_740 (by decide) ?_
        refine fs_i (va_runV (As := [.int (nI 8)]) (rest := []) E.1 (c_X7_count l g N ct_90 σ k hs u1 s1 u2 s2 t len (by omega) hO_98 (nI 8)) (lk_RL_56 E.1.2.2.2.2 ⟨Nat.le_of_ble_eq_true rfl, Nat.le_of_ble_eq_true rfl⟩) (fpreV E hP hS fc7 h7_100 (by omega)) rfl rfl hl.1 rfl (lv_room (Nat.le_of_ble_eq_true rfl)) dL_same_742 ⟨Nat.zero_le _, Nat.zero_le _⟩) hS (fun r_742 ct_101 H locs p_742 hP hS => ?_)
        have h_102 : ct_101 239 = .inl (fcI g, 6, .inl fl) := ((p_742.2.2 239 (by omega))).trans h_91
        have h_103 : ct_101 240 = .inl (fcI g, 6, .inl fsc) := ((p_742.2.2 240 (by omega))).trans h_92
        have h_104 : ct_101 241 = .inl (fcI g, 6, .inl fgu) := ((p_742.2.2 241 (by omega))).trans h_93
        have h_105 : ct_101 242 = .inl (fcI g, 60, .inl fr) := ((p_742.2.2 242 (by omega))).trans h_94
        have h_106 : ct_101 243 = .inl (fcI g, 3, .inl fq) := ((p_742.2.2 243 (by omega))).trans h_95
        have h_107 : ct_101 244 = .inl (fcI g, 6, .inl fw) := ((p_742.2.2 244 (by omega))).trans h_96
        have h_108 : ct_101 245 = .inl (fcI g, 51, .inl fC) := ((p_742.2.2 245 (by omega))).trans h_97
        have hO_109 : OGAt g ct_101 σ k hs u1 s1 u2 s2 t len := p_742.2.1
        obtain ⟨f7_110, h7_111⟩ := hO_109.obj
        refine fs_vi (y := (nI (cN (nvF σ) (nT σ)))) (p_742.1.trans (rfl)) ?_
        refine lv_iload hx hb dL_same_745 (lv_at hl 11 rfl) ?_
        refine lv_icmp_eq (tgt := 752) hx hb dL_same_747 (by decide) (fun c_747 => ?_) (fun c_747 => ?_)
        rotate_left
        · exact absurd rfl c_747
        refine lv_aload_n hx hb dL_same_752 rfl (lv_at hl 0 rfl) ?_
        refine lv_iconst (v := (nI 0)) hx hb dL_same_753 (by decide) ?_
        refine fs_i (va_runV (As := [.int (nI 0)]) (rest := []) E.1 (c_X7_sharpest l g N ct_101 σ k hs u1 s1 u2 s2 t len (by omega) hO_109 (nI 0)) (lk_RL_59 E.1.2.2.2.2 ⟨Nat.le_of_ble_eq_true rfl, Nat.le_of_ble_eq_true rfl⟩) (fpreV E hP hS fc7 h7_111 (by omega)) rfl rfl hl.1 rfl (lv_room (Nat.le_of_ble_eq_true rfl)) dL_same_754 ⟨Nat.zero_le _, Nat.zero_le _⟩) hS (fun r_754 ct_112 H locs p_754 hP hS => ?_)
        have h_113 : ct_112 239 = .inl (fcI g, 6, .inl fl) := ((p_754.2.2 239 (by omega))).trans h_102
        have h_114 : ct_112 240 = .inl (fcI g, 6, .inl fsc) := ((p_754.2.2 240 (by omega))).trans h_103
        have h_115 : ct_112 241 = .inl (fcI g, 6, .inl fgu) := ((p_754.2.2 241 (by omega))).trans h_104
        have h_116 : ct_112 242 = .inl (fcI g, 60, .inl fr) := ((p_754.2.2 242 (by omega))).trans h_105
        have h_117 : ct_112 243 = .inl (fcI g, 3, .inl fq) := ((p_754.2.2 243 (by omega))).trans h_106
        have h_118 : ct_112 244 = .inl (fcI g, 6, .inl fw) := ((p_754.2.2 244 (by omega))).trans h_107
        have h_119 : ct_112 245 = .inl (fcI g, 51, .inl fC) := ((p_754.2.2 245 (by omega))).trans h_108
        have hO_120 : OGAt g ct_112 σ k hs u1 s1 u2 s2 t len := p_754.2.1
        obtain ⟨f7_121, h7_122⟩ := hO_120.obj
        refine fs_vi (y := sh) (p_754.1.trans ((show (if nI 0 = 0 ∨ nI 0 = nI 1 then shR σ (nI 0) else -2) = shR σ (nI 0) from rfl).trans (SH_a0 hSH))) ?_
        refine lv_iload hx hb dL_same_757 (lv_at hl 13 rfl) ?_
        refine lv_icmp_ne (tgt := 862) hx hb dL_same_759 (by decide) (fun c_759 => ?_) (fun c_759 => ?_)
        · exact absurd rfl c_759
        refine lv_aload_n hx hb dL_same_762 rfl (lv_at hl 0 rfl) ?_
        refine lv_iconst (v := (nI 1)) hx hb dL_same_763 (by decide) ?_
        refine fs_i (va_runV (As := [.int (nI 1)]) (rest := []) E.1 (c_X7_sharpest l g N ct_112 σ k hs u1 s1 u2 s2 t len (by omega) hO_120 (nI 1)) (lk_RL_59 E.1.2.2.2.2 ⟨Nat.le_of_ble_eq_true rfl, Nat.le_of_ble_eq_true rfl⟩) (fpreV E hP hS fc7 h7_122 (by omega)) rfl rfl hl.1 rfl (lv_room (Nat.le_of_ble_eq_true rfl)) dL_same_764 ⟨Nat.zero_le _, Nat.zero_le _⟩) hS (fun r_764 ct_123 H locs p_764 hP hS => ?_)
        have h_124 : ct_123 239 = .inl (fcI g, 6, .inl fl) := ((p_764.2.2 239 (by omega))).trans h_113
        have h_125 : ct_123 240 = .inl (fcI g, 6, .inl fsc) := ((p_764.2.2 240 (by omega))).trans h_114
        have h_126 : ct_123 241 = .inl (fcI g, 6, .inl fgu) := ((p_764.2.2 241 (by omega))).trans h_115
        have h_127 : ct_123 242 = .inl (fcI g, 60, .inl fr) := ((p_764.2.2 242 (by omega))).trans h_116
        have h_128 : ct_123 243 = .inl (fcI g, 3, .inl fq) := ((p_764.2.2 243 (by omega))).trans h_117
        have h_129 : ct_123 244 = .inl (fcI g, 6, .inl fw) := ((p_764.2.2 244 (by omega))).trans h_118
        have h_130 : ct_123 245 = .inl (fcI g, 51, .inl fC) := ((p_764.2.2 245 (by omega))).trans h_119
        have hO_131 : OGAt g ct_123 σ k hs u1 s1 u2 s2 t len := p_764.2.1
        obtain ⟨f7_132, h7_133⟩ := hO_131.obj
        refine fs_vi (y := (shR σ (nI 1))) (p_764.1.trans (rfl)) ?_
        refine fs_cutS (g := g) (F0 m 779 ls [.int (shR σ (nI 1)) , .int (shR σ (nI 1))]) (fun locs hS => ?_) (fun K_779 => ?_)
        · skip
          refine lv_icmp_ne (tgt := 862) hx hb dL_same_779 (by decide) (fun c_779 => ?_) (fun c_779 => ?_)
          · exact absurd rfl c_779
          refine lv_aload_n hx hb dL_same_782 rfl (lv_at hl 0 rfl) ?_
          refine lv_iconst (v := (nI 0)) hx hb dL_same_783 (by decide) ?_
          refine fs_i (va_runV (As := [.int (nI 0)]) (rest := []) E.1 (c_X7_blame l g N ct_123 σ k hs u1 s1 u2 s2 t len (by omega) hO_131 (nI 0)) (lk_RL_62 E.1.2.2.2.2 ⟨Nat.le_of_ble_eq_true rfl, Nat.le_of_ble_eq_true rfl⟩) (fpreV E hP hS fc7 h7_133 (by omega)) rfl rfl hl.1 rfl (lv_room (Nat.le_of_ble_eq_true rfl)) dL_same_784 ⟨Nat.zero_le _, Nat.zero_le _⟩) hS (fun r_784 ct_134 H locs p_784 hP hS => ?_)
          have h_135 : ct_134 239 = .inl (fcI g, 6, .inl fl) := ((p_784.2.2 239 (by omega))).trans h_124
          have h_136 : ct_134 240 = .inl (fcI g, 6, .inl fsc) := ((p_784.2.2 240 (by omega))).trans h_125
          have h_137 : ct_134 241 = .inl (fcI g, 6, .inl fgu) := ((p_784.2.2 241 (by omega))).trans h_126
          have h_138 : ct_134 242 = .inl (fcI g, 60, .inl fr) := ((p_784.2.2 242 (by omega))).trans h_127
          have h_139 : ct_134 243 = .inl (fcI g, 3, .inl fq) := ((p_784.2.2 243 (by omega))).trans h_128
          have h_140 : ct_134 244 = .inl (fcI g, 6, .inl fw) := ((p_784.2.2 244 (by omega))).trans h_129
          have h_141 : ct_134 245 = .inl (fcI g, 51, .inl fC) := ((p_784.2.2 245 (by omega))).trans h_130
          have hO_142 : OGAt g ct_134 σ k hs u1 s1 u2 s2 t len := p_784.2.1
          obtain ⟨f7_143, h7_144⟩ := hO_142.obj
          refine fs_vi (y := bl) (p_784.1.trans ((show (if nI 0 = 0 ∨ nI 0 = nI 1 then blR σ (nI 0) else -2) = blR σ (nI 0) from rfl).trans (BL_a0 hBL))) ?_
          refine lv_iload hx hb dL_same_787 (lv_at hl 15 rfl) ?_
          refine lv_icmp_ne (tgt := 862) hx hb dL_same_789 (by decide) (fun c_789 => ?_) (fun c_789 => ?_)
          · exact absurd rfl c_789
          refine lv_aload_n hx hb dL_same_792 rfl (lv_at hl 0 rfl) ?_
          refine lv_iconst (v := (nI 1)) hx hb dL_same_793 (by decide) ?_
          refine fs_i (va_runV (As := [.int (nI 1)]) (rest := []) E.1 (c_X7_blame l g N ct_134 σ k hs u1 s1 u2 s2 t len (by omega) hO_142 (nI 1)) (lk_RL_62 E.1.2.2.2.2 ⟨Nat.le_of_ble_eq_true rfl, Nat.le_of_ble_eq_true rfl⟩) (fpreV E hP hS fc7 h7_144 (by omega)) rfl rfl hl.1 rfl (lv_room (Nat.le_of_ble_eq_true rfl)) dL_same_794 ⟨Nat.zero_le _, Nat.zero_le _⟩) hS (fun r_794 ct_145 H locs p_794 hP hS => ?_)
          have h_146 : ct_145 239 = .inl (fcI g, 6, .inl fl) := ((p_794.2.2 239 (by omega))).trans h_135
          have h_147 : ct_145 240 = .inl (fcI g, 6, .inl fsc) := ((p_794.2.2 240 (by omega))).trans h_136
          have h_148 : ct_145 241 = .inl (fcI g, 6, .inl fgu) := ((p_794.2.2 241 (by omega))).trans h_137
          have h_149 : ct_145 242 = .inl (fcI g, 60, .inl fr) := ((p_794.2.2 242 (by omega))).trans h_138
          have h_150 : ct_145 243 = .inl (fcI g, 3, .inl fq) := ((p_794.2.2 243 (by omega))).trans h_139
          have h_151 : ct_145 244 = .inl (fcI g, 6, .inl fw) := ((p_794.2.2 244 (by omega))).trans h_140
          have h_152 : ct_145 245 = .inl (fcI g, 51, .inl fC) := ((p_794.2.2 245 (by omega))).trans h_141
          have hO_153 : OGAt g ct_145 σ k hs u1 s1 u2 s2 t len := p_794.2.1
          obtain ⟨f7_154, h7_155⟩ := hO_153.obj
          refine fs_vi (y := (blR σ (nI 1))) (p_794.1.trans (rfl)) ?_
          refine fs_cutS (g := g) (F0 m 809 ls [.int (blR σ (nI 1)) , .int (blR σ (nI 1))]) (fun locs hS => ?_) (fun K_809 => ?_)
          · skip
            refine lv_icmp_ne (tgt := 862) hx hb dL_same_809 (by decide) (fun c_809 => ?_) (fun c_809 => ?_)
            · exact absurd rfl c_809
            refine lv_aload_n hx hb dL_same_812 rfl (lv_at hl 0 rfl) ?_
            refine lv_iconst (v := (nI 0)) hx hb dL_same_813 (by decide) ?_
            refine fs_i (va_runV (As := [.int (nI 0)]) (rest := []) E.1 (c_X7_mostWatched l g N ct_145 σ k hs u1 s1 u2 s2 t len (by omega) hO_153 (nI 0)) (lk_RL_65 E.1.2.2.2.2 ⟨Nat.le_of_ble_eq_true rfl, Nat.le_of_ble_eq_true rfl⟩) (fpreV E hP hS fc7 h7_155 (by omega)) rfl rfl hl.1 rfl (lv_room (Nat.le_of_ble_eq_true rfl)) dL_same_814 ⟨Nat.zero_le _, Nat.zero_le _⟩) hS (fun r_814 ct_156 H locs p_814 hP hS => ?_)
            have h_157 : ct_156 239 = .inl (fcI g, 6, .inl fl) := ((p_814.2.2 239 (by omega))).trans h_146
            have h_158 : ct_156 240 = .inl (fcI g, 6, .inl fsc) := ((p_814.2.2 240 (by omega))).trans h_147
            have h_159 : ct_156 241 = .inl (fcI g, 6, .inl fgu) := ((p_814.2.2 241 (by omega))).trans h_148
            have h_160 : ct_156 242 = .inl (fcI g, 60, .inl fr) := ((p_814.2.2 242 (by omega))).trans h_149
            have h_161 : ct_156 243 = .inl (fcI g, 3, .inl fq) := ((p_814.2.2 243 (by omega))).trans h_150
            have h_162 : ct_156 244 = .inl (fcI g, 6, .inl fw) := ((p_814.2.2 244 (by omega))).trans h_151
            have h_163 : ct_156 245 = .inl (fcI g, 51, .inl fC) := ((p_814.2.2 245 (by omega))).trans h_152
            have hO_164 : OGAt g ct_156 σ k hs u1 s1 u2 s2 t len := p_814.2.1
            obtain ⟨f7_165, h7_166⟩ := hO_164.obj
            refine fs_vi (y := (mwR σ (nI 0))) (p_814.1.trans (rfl)) ?_
            refine fs_cutS (g := g) (F0 m 834 ls [.int (mwR σ (nI 0)) , .int (mwR σ (nI 0))]) (fun locs hS => ?_) (fun K_834 => ?_)
            · skip
              refine lv_icmp_ne (tgt := 862) hx hb dL_same_834 (by decide) (fun c_834 => ?_) (fun c_834 => ?_)
              · exact absurd rfl c_834
              refine lv_aload_n hx hb dL_same_837 rfl (lv_at hl 0 rfl) ?_
              refine lv_iconst (v := (nI 1)) hx hb dL_same_838 (by decide) ?_
              refine fs_i (va_runV (As := [.int (nI 1)]) (rest := []) E.1 (c_X7_mostWatched l g N ct_156 σ k hs u1 s1 u2 s2 t len (by omega) hO_164 (nI 1)) (lk_RL_65 E.1.2.2.2.2 ⟨Nat.le_of_ble_eq_true rfl, Nat.le_of_ble_eq_true rfl⟩) (fpreV E hP hS fc7 h7_166 (by omega)) rfl rfl hl.1 rfl (lv_room (Nat.le_of_ble_eq_true rfl)) dL_same_839 ⟨Nat.zero_le _, Nat.zero_le _⟩) hS (fun r_839 ct_167 H locs p_839 hP hS => ?_)
              have h_168 : ct_167 239 = .inl (fcI g, 6, .inl fl) := ((p_839.2.2 239 (by omega))).trans h_157
              have h_169 : ct_167 240 = .inl (fcI g, 6, .inl fsc) := ((p_839.2.2 240 (by omega))).trans h_158
              have h_170 : ct_167 241 = .inl (fcI g, 6, .inl fgu) := ((p_839.2.2 241 (by omega))).trans h_159
              have h_171 : ct_167 242 = .inl (fcI g, 60, .inl fr) := ((p_839.2.2 242 (by omega))).trans h_160
              have h_172 : ct_167 243 = .inl (fcI g, 3, .inl fq) := ((p_839.2.2 243 (by omega))).trans h_161
              have h_173 : ct_167 244 = .inl (fcI g, 6, .inl fw) := ((p_839.2.2 244 (by omega))).trans h_162
              have h_174 : ct_167 245 = .inl (fcI g, 51, .inl fC) := ((p_839.2.2 245 (by omega))).trans h_163
              have hO_175 : OGAt g ct_167 σ k hs u1 s1 u2 s2 t len := p_839.2.1
              obtain ⟨f7_176, h7_177⟩ := hO_175.obj
              refine fs_vi (y := (mwR σ (nI 1))) (p_839.1.trans (rfl)) ?_
              refine fs_cutS (g := g) (F0 m 859 ls [.int (mwR σ (nI 1)) , .int (mwR σ (nI 1))]) (fun locs hS => ?_) (fun K_859 => ?_)
              · skip
                refine lv_icmp_eq (tgt := 864) hx hb dL_same_859 (by decide) (fun c_859 => ?_) (fun c_859 => ?_)
                rotate_left
                · exact absurd rfl c_859
                refine lv_iload_n hx hb dL_same_864 rfl (lv_at hl 1 rfl) ?_
                refine lv_aload hx hb dL_same_865 (lv_at hl 8 rfl) ?_
                refine lv_iconst (v := (nI 0)) hx hb dL_same_867 (by decide) ?_
                refine fs_iald E hP (k := 245) h_174 (by omega) (vp_in_nI (by omega) (by omega)) dL_same_868 ?_
                refine fs_vi (y := fC 0) (congrArg fC (nI_clamp (by omega))) ?_
                refine fs_vi (y := (nI (Wn σ))) hCO.1 ?_
                refine lv_iconst (v := (nI 1)) hx hb dL_same_869 (by decide) ?_
                refine lv_iadd hx hb dL_same_870 ?_
                refine fs_vi (y := nI (Wn σ + 1)) (nI_add _ _) ?_
                refine fs_pi (va_runS (As := [.int x, .int (nI (Wn σ + 1))]) (rest := []) E.1 (c_L_low l g N ct_167 x (Wn σ + 1) (by omega) (by omega)) (lk_RL_68 E.1.2.2.2.2 ⟨Nat.le_of_ble_eq_true rfl, Nat.le_of_ble_eq_true rfl⟩) (fpreS E hP hS) rfl rfl hl.1 rfl (lv_room (Nat.le_of_ble_eq_true rfl)) dL_same_871 ⟨Nat.zero_le _, Nat.zero_le _⟩) hS (fun r_871 locs p_871 hS => ?_)
                obtain ⟨num, hnum, rfl⟩ := p_871
                refine lv_istore (lv' := [(17, .int (nI num)), (0, .ref (fa g 0)), (1, .int x), (2, .ref (fa g 243)), (3, .ref (fa g 239)), (4, .ref (fa g 240)), (5, .ref (fa g 241)), (6, .ref (fa g 242)), (7, .ref (fa g 244)), (8, .ref (fa g 245)), (9, .int (nI (cN (opn σ) (nT σ)))), (10, .int (nI (cN (srF σ) (nT σ)))), (11, .int (nI (cN (nvF σ) (nT σ)))), (12, .int (nI (cN (ceF σ) (nB σ)))), (13, .int sh), (14, .int le), (15, .int bl), (16, .int mo)]) hx hb dL_same_874 hl (by decide) rfl (fun ls hl => ?_)
                refine lv_iload_n hx hb dL_same_876 rfl (lv_at hl 2 rfl) ?_
                refine lv_iconst (v := (nI 3)) hx hb dL_same_877 (by decide) ?_
                refine lv_ishr hx hb dL_same_878 ?_
                refine lv_bipush (v := (nI 6)) hx hb dL_same_879 (by decide) ?_
                refine fs_pi (va_runS (As := [.int (x >>> ((nI 3) &&& 31)), .int (nI 6)]) (rest := []) E.1 (c_L_low l g N ct_167 (x >>> ((nI 3) &&& 31)) 6 (by omega) (by omega)) (lk_RL_68 E.1.2.2.2.2 ⟨Nat.le_of_ble_eq_true rfl, Nat.le_of_ble_eq_true rfl⟩) (fpreS E hP hS) rfl rfl hl.1 rfl (lv_room (Nat.le_of_ble_eq_true rfl)) dL_same_881 ⟨Nat.zero_le _, Nat.zero_le _⟩) hS (fun r_881 locs p_881 hS => ?_)
                obtain ⟨kd, hkd, rfl⟩ := p_881
                refine lv_istore (lv' := [(18, .int (nI kd)), (17, .int (nI num)), (0, .ref (fa g 0)), (1, .int x), (2, .ref (fa g 243)), (3, .ref (fa g 239)), (4, .ref (fa g 240)), (5, .ref (fa g 241)), (6, .ref (fa g 242)), (7, .ref (fa g 244)), (8, .ref (fa g 245)), (9, .int (nI (cN (opn σ) (nT σ)))), (10, .int (nI (cN (srF σ) (nT σ)))), (11, .int (nI (cN (nvF σ) (nT σ)))), (12, .int (nI (cN (ceF σ) (nB σ)))), (13, .int sh), (14, .int le), (15, .int bl), (16, .int mo)]) hx hb dL_same_884 hl (by decide) rfl (fun ls hl => ?_)
                refine lv_iload_n hx hb dL_same_886 rfl (lv_at hl 3 rfl) ?_
                refine lv_iconst (v := (nI 5)) hx hb dL_same_887 (by decide) ?_
                refine lv_ishr hx hb dL_same_888 ?_
                refine lv_aload_n hx hb dL_same_889 rfl (lv_at hl 4 rfl) ?_
                refine lv_iconst (v := (nI 0)) hx hb dL_same_890 (by decide) ?_
                refine fs_iald E hP (k := 243) h_172 (by omega) (vp_in_nI (by omega) (by omega)) dL_same_891 ?_
                refine fs_vi (y := fq 0) (congrArg fq (nI_clamp (by omega))) ?_
                refine fs_vi (y := (nI (nB σ))) hQ.1 ?_
                refine fs_pi (va_runS (As := [.int (x >>> ((nI 5) &&& 31)), .int (nI (nB σ))]) (rest := []) E.1 (c_L_low l g N ct_167 (x >>> ((nI 5) &&& 31)) (nB σ) (by omega) (by omega)) (lk_RL_68 E.1.2.2.2.2 ⟨Nat.le_of_ble_eq_true rfl, Nat.le_of_ble_eq_true rfl⟩) (fpreS E hP hS) rfl rfl hl.1 rfl (lv_room (Nat.le_of_ble_eq_true rfl)) dL_same_892 ⟨Nat.zero_le _, Nat.zero_le _⟩) hS (fun r_892 locs p_892 hS => ?_)
                obtain ⟨a0, ha0, rfl⟩ := p_892
                refine lv_istore (lv' := [(19, .int (nI a0)), (18, .int (nI kd)), (17, .int (nI num)), (0, .ref (fa g 0)), (1, .int x), (2, .ref (fa g 243)), (3, .ref (fa g 239)), (4, .ref (fa g 240)), (5, .ref (fa g 241)), (6, .ref (fa g 242)), (7, .ref (fa g 244)), (8, .ref (fa g 245)), (9, .int (nI (cN (opn σ) (nT σ)))), (10, .int (nI (cN (srF σ) (nT σ)))), (11, .int (nI (cN (nvF σ) (nT σ)))), (12, .int (nI (cN (ceF σ) (nB σ)))), (13, .int sh), (14, .int le), (15, .int bl), (16, .int mo)]) hx hb dL_same_895 hl (by decide) rfl (fun ls hl => ?_)
                refine fs_cutN (g := g) (fun b0 => (kd = 4 → b0 < 7) ∧ (kd ≠ 4 → b0 < nB σ)) (fun b0 => F0 m 925 ls [.int (nI b0)]) (fun b0 locs hb0 hS => ?_) (fun K_925 => ?_)
                · obtain ⟨hb4, hb5⟩ := hb0
                  have hb7 : b0 < 7 := by
                    by_cases e9 : kd = 4
                    · exact hb4 e9
                    · have := hb5 e9; omega
                  refine lv_istore (lv' := [(20, .int (nI b0)), (19, .int (nI a0)), (18, .int (nI kd)), (17, .int (nI num)), (0, .ref (fa g 0)), (1, .int x), (2, .ref (fa g 243)), (3, .ref (fa g 239)), (4, .ref (fa g 240)), (5, .ref (fa g 241)), (6, .ref (fa g 242)), (7, .ref (fa g 244)), (8, .ref (fa g 245)), (9, .int (nI (cN (opn σ) (nT σ)))), (10, .int (nI (cN (srF σ) (nT σ)))), (11, .int (nI (cN (nvF σ) (nT σ)))), (12, .int (nI (cN (ceF σ) (nB σ)))), (13, .int sh), (14, .int le), (15, .int bl), (16, .int mo)]) hx hb dL_same_925 hl (by decide) rfl (fun ls hl => ?_)
                  refine fs_cutS (g := g) (F0 m 945 ls [.int (bI (suN kd a0 b0))]) (fun locs hS => ?_) (fun K_945 => ?_)
                  · skip
                    refine lv_istore (lv' := [(21, .int (bI (suN kd a0 b0))), (20, .int (nI b0)), (19, .int (nI a0)), (18, .int (nI kd)), (17, .int (nI num)), (0, .ref (fa g 0)), (1, .int x), (2, .ref (fa g 243)), (3, .ref (fa g 239)), (4, .ref (fa g 240)), (5, .ref (fa g 241)), (6, .ref (fa g 242)), (7, .ref (fa g 244)), (8, .ref (fa g 245)), (9, .int (nI (cN (opn σ) (nT σ)))), (10, .int (nI (cN (srF σ) (nT σ)))), (11, .int (nI (cN (nvF σ) (nT σ)))), (12, .int (nI (cN (ceF σ) (nB σ)))), (13, .int sh), (14, .int le), (15, .int bl), (16, .int mo)]) hx hb dL_same_945 hl (by decide) rfl (fun ls hl => ?_)
                    refine lv_iconst (v := (nI 0)) hx hb dL_same_947 (by decide) ?_
                    refine lv_istore (lv' := [(22, .int (nI 0)), (21, .int (bI (suN kd a0 b0))), (20, .int (nI b0)), (19, .int (nI a0)), (18, .int (nI kd)), (17, .int (nI num)), (0, .ref (fa g 0)), (1, .int x), (2, .ref (fa g 243)), (3, .ref (fa g 239)), (4, .ref (fa g 240)), (5, .ref (fa g 241)), (6, .ref (fa g 242)), (7, .ref (fa g 244)), (8, .ref (fa g 245)), (9, .int (nI (cN (opn σ) (nT σ)))), (10, .int (nI (cN (srF σ) (nT σ)))), (11, .int (nI (cN (nvF σ) (nT σ)))), (12, .int (nI (cN (ceF σ) (nB σ)))), (13, .int sh), (14, .int le), (15, .int bl), (16, .int mo)]) hx hb dL_same_948 hl (by decide) rfl (fun ls hl => ?_)
                    refine lv_iconst (v := (nI 0)) hx hb dL_same_950 (by decide) ?_
                    refine fs_vi (y := (nI (prv σ kd a0 b0 0))) (congrArg nI prv_0.symm) ?_
                    refine lv_istore (lv' := [(23, .int (nI (prv σ kd a0 b0 0))), (22, .int (nI 0)), (21, .int (bI (suN kd a0 b0))), (20, .int (nI b0)), (19, .int (nI a0)), (18, .int (nI kd)), (17, .int (nI num)), (0, .ref (fa g 0)), (1, .int x), (2, .ref (fa g 243)), (3, .ref (fa g 239)), (4, .ref (fa g 240)), (5, .ref (fa g 241)), (6, .ref (fa g 242)), (7, .ref (fa g 244)), (8, .ref (fa g 245)), (9, .int (nI (cN (opn σ) (nT σ)))), (10, .int (nI (cN (srF σ) (nT σ)))), (11, .int (nI (cN (nvF σ) (nT σ)))), (12, .int (nI (cN (ceF σ) (nB σ)))), (13, .int sh), (14, .int le), (15, .int bl), (16, .int mo)]) hx hb dL_same_951 hl (by decide) rfl (fun ls hl => ?_)
                    refine lv_aload_n hx hb dL_same_953 rfl (lv_at hl 9 rfl) ?_
                    refine lv_aload hx hb dL_same_954 (lv_at hl 14 rfl) ?_
                    refine fs_v (va_runS (As := [.ref (fa g 243), .ref (fa g 244)]) (rest := []) E.1 (c_L_first l g N ct_167 σ (by omega) hG fq h_172 hQ fw h_173) (lk_RL_20 E.1.2.2.2.2 ⟨Nat.le_of_ble_eq_true rfl, Nat.le_of_ble_eq_true rfl⟩) (fpreS E hP hS) rfl rfl hl.1 rfl (lv_room (Nat.le_of_ble_eq_true rfl)) dL_same_956 ⟨Nat.zero_le _, Nat.zero_le _⟩) hS (fun ct_178 H locs p_956 hP hS => ?_)
                    obtain ⟨f_179, e_180, h_181⟩ := p_956
                    have h_182 : ct_178 239 = .inl (fcI g, 6, .inl fl) := by rw [e_180]; exact (fu_ne (by omega)).trans h_168
                    have h_183 : ct_178 240 = .inl (fcI g, 6, .inl fsc) := by rw [e_180]; exact (fu_ne (by omega)).trans h_169
                    have h_184 : ct_178 241 = .inl (fcI g, 6, .inl fgu) := by rw [e_180]; exact (fu_ne (by omega)).trans h_170
                    have h_185 : ct_178 242 = .inl (fcI g, 60, .inl fr) := by rw [e_180]; exact (fu_ne (by omega)).trans h_171
                    have h_186 : ct_178 243 = .inl (fcI g, 3, .inl fq) := by rw [e_180]; exact (fu_ne (by omega)).trans h_172
                    have h_187 : ct_178 244 = .inl (fcI g, 6, .inl f_179) := by rw [e_180]; exact fu_eq _ _ _
                    have h_188 : ct_178 245 = .inl (fcI g, 51, .inl fC) := by rw [e_180]; exact (fu_ne (by omega)).trans h_174
                    have h_189 : ct_178 0 = .inr (7, f7_176) := by rw [e_180]; exact (fu_ne (by omega)).trans h7_177
                    have hO_190 : OGAt g ct_178 σ k hs u1 s1 u2 s2 t len := OGAt.keep hO_175 (fun j h1 => by rw [e_180]; exact fu_ne (by omega))
                    obtain ⟨f7_191, h7_192⟩ := hO_190.obj
                    refine fs_ind (g := g) (N := N) (St := Nat) (fun (mm : Nat) (ct_193 : Nat → va_E) (ls : Array Slot) => lv_has ls 25 [(0, .ref (fa g 0)), (1, .int x), (2, .ref (fa g 243)), (3, .ref (fa g 239)), (4, .ref (fa g 240)), (5, .ref (fa g 241)), (6, .ref (fa g 242)), (7, .ref (fa g 244)), (8, .ref (fa g 245)), (17, .int (nI num)), (18, .int (nI kd)), (19, .int (nI a0)), (20, .int (nI b0)), (21, .int (bI (suN kd a0 b0))), (22, .int (nI (cN (okq σ) mm))), (23, .int (nI (prv σ kd a0 b0 mm)))] ∧ mm < mM σ ∧ OGAt g ct_193 σ k hs u1 s1 u2 s2 t len ∧ RWS g ct_193 fl fsc fgu fr fq ∧ (∃ f1 : Nat → Int32, ct_193 244 = .inl (fcI g, 6, .inl f1) ∧ ∀ p, p < nB σ → f1 p = nI (wd (nB σ) mm p)) ∧ ct_193 245 = .inl (fcI g, 51, .inl fC)) (fun (mm : Nat) => mM σ - mm) ?_ 0 _ _ ls _ ⟨lv_sub hl [7, 8, 9, 10, 11, 12, 13, 14, 15, 6, 5, 4, 3, 2, 1, 0] rfl, hM.2, hO_190, ⟨h_182, h_183, h_184, h_185, h_186⟩, ⟨_, h_187, h_181⟩, h_188⟩ hP hS
                    clear hl hP hS
                    intro st ct_193 H ls locs hI hP hS ih6
                    obtain ⟨mm, rfl⟩ : ∃ z, z = st := ⟨_, rfl⟩
                    obtain ⟨hl, hI⟩ := hI
                    obtain ⟨hm, hO, ⟨h39, h40, h41, h42, h43⟩, ⟨f1, h44, hw1⟩, h45⟩ := hI
                    obtain ⟨f7, h7⟩ := hO.obj
                    refine lv_aload_n hx hb dL_same_959 rfl (lv_at hl 2 rfl) ?_
                    refine lv_aload hx hb dL_same_960 (lv_at hl 6 rfl) ?_
                    refine lv_aload hx hb dL_same_962 (lv_at hl 7 rfl) ?_
                    refine lv_iconst (v := (-1)) hx hb dL_same_964 (by decide) ?_
                    refine fs_pi (va_runS (As := [.ref (fa g 243), .ref (fa g 242), .ref (fa g 244), .int (-1)]) (rest := []) E.1 (c_L_may l g N ct_193 σ (by omega) hG h12 fr h42 hR fq h43 hQ 244 f1 (wd (nB σ) mm) (by omega) hw1 (wd_ok hn3 mm) h44 (-1)) (lk_RL_24 E.1.2.2.2.2 ⟨Nat.le_of_ble_eq_true rfl, Nat.le_of_ble_eq_true rfl⟩) (fpreS E hP hS) rfl rfl hl.1 rfl (lv_room (Nat.le_of_ble_eq_true rfl)) dL_same_965 ⟨Nat.zero_le _, Nat.zero_le _⟩) hS (fun r_965 locs p_965 hS => ?_)
                    have p30 := p_965.trans (bI_iff (may_m1 (by omega)))
                    refine lv_if_ne (tgt := 974) hx hb dL_same_968 (by decide) (fun c_968 => ?_) (fun c_968 => ?_)
                    · have c_968 := (fb_1 p30).mp c_968
                      have hok : okq σ mm = true := c_968
                      have hcl9 := cN_le (okq σ) mm
                      refine lv_iconst (v := (nI 0)) hx hb dL_same_974 (by decide) ?_
                      refine lv_istore (lv' := [(24, .int (nI 0)), (0, .ref (fa g 0)), (1, .int x), (2, .ref (fa g 243)), (3, .ref (fa g 239)), (4, .ref (fa g 240)), (5, .ref (fa g 241)), (6, .ref (fa g 242)), (7, .ref (fa g 244)), (8, .ref (fa g 245)), (17, .int (nI num)), (18, .int (nI kd)), (19, .int (nI a0)), (20, .int (nI b0)), (21, .int (bI (suN kd a0 b0))), (22, .int (nI (cN (okq σ) mm))), (23, .int (nI (prv σ kd a0 b0 mm)))]) hx hb dL_same_975 hl (by decide) rfl (fun ls hl => ?_)
                      refine fs_ind (g := g) (N := N) (St := Nat) (fun (pp : Nat) (ct_194 : Nat → va_E) (ls : Array Slot) => lv_has ls 25 [(0, .ref (fa g 0)), (1, .int x), (2, .ref (fa g 243)), (3, .ref (fa g 239)), (4, .ref (fa g 240)), (5, .ref (fa g 241)), (6, .ref (fa g 242)), (7, .ref (fa g 244)), (8, .ref (fa g 245)), (17, .int (nI num)), (18, .int (nI kd)), (19, .int (nI a0)), (20, .int (nI b0)), (21, .int (bI (suN kd a0 b0))), (22, .int (nI (cN (okq σ) mm))), (23, .int (nI (prv σ kd a0 b0 mm))), (24, .int (nI pp))] ∧ pp ≤ nB σ ∧ OGAt g ct_194 σ k hs u1 s1 u2 s2 t len ∧ RWS g ct_194 fl fsc fgu fr fq ∧ ct_194 244 = .inl (fcI g, 6, .inl f1) ∧ ct_194 245 = .inl (fcI g, 51, .inl fC)) (fun (pp : Nat) => nB σ - pp) ?_ 0 _ _ ls _ ⟨lv_sub hl [1, 2, 3, 4, 5, 6, 7, 8, 9, 10, 11, 12, 13, 14, 15, 16, 0] rfl, Nat.zero_le _, hO, ⟨h39, h40, h41, h42, h43⟩, h44, h45⟩ hP hS
                      clear hl hP hS
                      intro st ct_194 H ls locs hI hP hS ih7
                      obtain ⟨pp, rfl⟩ : ∃ z, z = st := ⟨_, rfl⟩
                      obtain ⟨hl, hI⟩ := hI
                      obtain ⟨hpp, hO, ⟨h39, h40, h41, h42, h43⟩, h44, h45⟩ := hI
                      obtain ⟨f7, h7⟩ := hO.obj
                      refine lv_iload hx hb dL_same_977 (lv_at hl 16 rfl) ?_
                      refine lv_aload_n hx hb dL_same_979 rfl (lv_at hl 2 rfl) ?_
                      refine lv_iconst (v := (nI 0)) hx hb dL_same_980 (by decide) ?_
                      refine fs_iald E hP (k := 243) h43 (by omega) (vp_in_nI (by omega) (by omega)) dL_same_981 ?_
                      refine fs_vi (y := fq 0) (congrArg fq (nI_clamp (by omega))) ?_
                      refine fs_vi (y := (nI (nB σ))) hQ.1 ?_
                      refine lv_icmp_ge (tgt := 1016) hx hb dL_same_982 (by decide) (fun c_982 => ?_) (fun c_982 => ?_)
                      · rw [nI_leI (by omega) (by omega)] at c_982
                        refine fs_cutS (g := g) (F0 m 1046 ls [.int (nI (prv σ kd a0 b0 (mm + 1)))]) (fun locs hS => ?_) (fun K_1046 => ?_)
                        · skip
                          refine lv_istore (lv' := [(23, .int (nI (prv σ kd a0 b0 (mm + 1)))), (0, .ref (fa g 0)), (1, .int x), (2, .ref (fa g 243)), (3, .ref (fa g 239)), (4, .ref (fa g 240)), (5, .ref (fa g 241)), (6, .ref (fa g 242)), (7, .ref (fa g 244)), (8, .ref (fa g 245)), (17, .int (nI num)), (18, .int (nI kd)), (19, .int (nI a0)), (20, .int (nI b0)), (21, .int (bI (suN kd a0 b0))), (22, .int (nI (cN (okq σ) mm))), (24, .int (nI pp))]) hx hb dL_same_1046 hl (by decide) rfl (fun ls hl => ?_)
                          refine lv_iinc (v := (nI (cN (okq σ) (mm + 1)))) (lv' := [(22, .int (nI (cN (okq σ) (mm + 1)))), (23, .int (nI (prv σ kd a0 b0 (mm + 1)))), (0, .ref (fa g 0)), (1, .int x), (2, .ref (fa g 243)), (3, .ref (fa g 239)), (4, .ref (fa g 240)), (5, .ref (fa g 241)), (6, .ref (fa g 242)), (7, .ref (fa g 244)), (8, .ref (fa g 245)), (17, .int (nI num)), (18, .int (nI kd)), (19, .int (nI a0)), (20, .int (nI b0)), (21, .int (bI (suN kd a0 b0))), (24, .int (nI pp))]) hx hb dL_same_1048 hl (k := 15) rfl (by rw [cN_t hok]; exact nI_1 _) (by decide) rfl (fun ls hl => ?_)
                          refine lv_aload_n hx hb dL_same_1051 rfl (lv_at hl 4 rfl) ?_
                          refine lv_aload hx hb dL_same_1052 (lv_at hl 9 rfl) ?_
                          refine fs_i (va_runS (As := [.ref (fa g 243), .ref (fa g 244)]) (rest := []) E.1 (c_L_next l g N ct_194 σ (by omega) hG fq h43 hQ f1 h44 mm hm hw1) (lk_RL_28 E.1.2.2.2.2 ⟨Nat.le_of_ble_eq_true rfl, Nat.le_of_ble_eq_true rfl⟩) (fpreS E hP hS) rfl rfl hl.1 rfl (lv_room (Nat.le_of_ble_eq_true rfl)) dL_same_1054 ⟨Nat.zero_le _, Nat.zero_le _⟩) hS (fun r_1054 ct_195 H locs p_1054 hP hS => ?_)
                          obtain ⟨f5, e5, h5⟩ := p_1054
                          have h_196 : ct_195 0 = .inr (7, f7) := by rw [e5]; exact (fu_ne (by omega)).trans h7
                          have h_197 : ct_195 239 = .inl (fcI g, 6, .inl fl) := by rw [e5]; exact (fu_ne (by omega)).trans h39
                          have h_198 : ct_195 240 = .inl (fcI g, 6, .inl fsc) := by rw [e5]; exact (fu_ne (by omega)).trans h40
                          have h_199 : ct_195 241 = .inl (fcI g, 6, .inl fgu) := by rw [e5]; exact (fu_ne (by omega)).trans h41
                          have h_200 : ct_195 242 = .inl (fcI g, 60, .inl fr) := by rw [e5]; exact (fu_ne (by omega)).trans h42
                          have h_201 : ct_195 243 = .inl (fcI g, 3, .inl fq) := by rw [e5]; exact (fu_ne (by omega)).trans h43
                          have h_202 : ct_195 244 = .inl (fcI g, 6, .inl f5) := by rw [e5]; exact fu_eq _ _ _
                          have h_203 : ct_195 245 = .inl (fcI g, 51, .inl fC) := by rw [e5]; exact (fu_ne (by omega)).trans h45
                          have hO_204 : OGAt g ct_195 σ k hs u1 s1 u2 s2 t len := OGAt.keep hO (fun j h1 => by rw [e5]; exact fu_ne (by omega))
                          obtain ⟨f7_205, h7_206⟩ := hO_204.obj
                          rcases h5 with ⟨hm5, rfl, hw5⟩ | ⟨hm5, rfl⟩
                          · refine lv_if_ne (tgt := 959) hx hb dL_same_1057 (by decide) (fun c_1057 => ?_) (fun c_1057 => ?_)
                            rotate_left
                            · exact absurd c_1057 (by decide)
                            exact ih6 (mm + 1) _ _ ls _ (by (try dsimp only); omega) ⟨lv_sub hl [2, 3, 4, 5, 6, 7, 8, 9, 10, 11, 12, 13, 14, 15, 0, 1] rfl, hm5, hO_204, ⟨h_197, h_198, h_199, h_200, h_201⟩, ⟨_, h_202, hw5⟩, h_203⟩ hP hS
                          · refine lv_if_ne (tgt := 959) hx hb dL_same_1057 (by decide) (fun c_1057 => ?_) (fun c_1057 => ?_)
                            · exact absurd c_1057 (by decide)
                            rw [hm5] at hl
                            refine lv_aload_n hx hb dL_same_1060 rfl (lv_at hl 2 rfl) ?_
                            refine lv_aload hx hb dL_same_1061 (lv_at hl 10 rfl) ?_
                            refine lv_iconst (v := (nI 0)) hx hb dL_same_1063 (by decide) ?_
                            refine fs_iald E hP (k := 245) h_203 (by omega) (vp_in_nI (by omega) (by omega)) dL_same_1064 ?_
                            refine fs_vi (y := fC 0) (congrArg fC (nI_clamp (by omega))) ?_
                            refine fs_vi (y := (nI (Wn σ))) hCO.1 ?_
                            refine lv_iconst (v := (nI 0)) hx hb dL_same_1065 (by decide) ?_
                            refine fs_i (va_runV (As := [.int (nI (Wn σ)), .int (nI 0)]) (rest := []) E.1 (c_X7_world l g N ct_195 σ k hs u1 s1 u2 s2 t len (by omega) hO_204 (nI (Wn σ)) (nI 0)) (lk_RL_71 E.1.2.2.2.2 ⟨Nat.le_of_ble_eq_true rfl, Nat.le_of_ble_eq_true rfl⟩) (fpreV E hP hS fc7 h7_206 (by omega)) rfl rfl hl.1 rfl (lv_room (Nat.le_of_ble_eq_true rfl)) dL_same_1066 ⟨Nat.zero_le _, Nat.zero_le _⟩) hS (fun r_1066 ct_207 H locs p_1066 hP hS => ?_)
                            have h_208 : ct_207 239 = .inl (fcI g, 6, .inl fl) := ((p_1066.2.2 239 (by omega))).trans h_197
                            have h_209 : ct_207 240 = .inl (fcI g, 6, .inl fsc) := ((p_1066.2.2 240 (by omega))).trans h_198
                            have h_210 : ct_207 241 = .inl (fcI g, 6, .inl fgu) := ((p_1066.2.2 241 (by omega))).trans h_199
                            have h_211 : ct_207 242 = .inl (fcI g, 60, .inl fr) := ((p_1066.2.2 242 (by omega))).trans h_200
                            have h_212 : ct_207 243 = .inl (fcI g, 3, .inl fq) := ((p_1066.2.2 243 (by omega))).trans h_201
                            have h_213 : ct_207 244 = .inl (fcI g, 6, .inl f5) := ((p_1066.2.2 244 (by omega))).trans h_202
                            have h_214 : ct_207 245 = .inl (fcI g, 51, .inl fC) := ((p_1066.2.2 245 (by omega))).trans h_203
                            have hO_215 : OGAt g ct_207 σ k hs u1 s1 u2 s2 t len := p_1066.2.1
                            obtain ⟨f7_216, h7_217⟩ := hO_215.obj
                            refine fs_vi (y := (-1)) (p_1066.1.trans ((wo_a (by omega) hn6).trans (wl_end hG))) ?_
                            refine lv_iconst (v := (-1)) hx hb dL_same_1069 (by decide) ?_
                            refine lv_icmp_ne (tgt := 1102) hx hb dL_same_1070 (by decide) (fun c_1070 => ?_) (fun c_1070 => ?_)
                            · exact absurd rfl c_1070
                            refine lv_aload_n hx hb dL_same_1073 rfl (lv_at hl 2 rfl) ?_
                            refine lv_iload hx hb dL_same_1074 (lv_at hl 12 rfl) ?_
                            refine lv_iload hx hb dL_same_1076 (lv_at hl 13 rfl) ?_
                            refine lv_iload hx hb dL_same_1078 (lv_at hl 14 rfl) ?_
                            refine fs_i (va_runV (As := [.int (nI kd), .int (nI a0), .int (nI b0)]) (rest := []) E.1 (c_X7_ifProved l g N ct_207 σ k hs u1 s1 u2 s2 t len (by omega) hO_215 (nI kd) (nI a0) (nI b0)) (lk_RL_74 E.1.2.2.2.2 ⟨Nat.le_of_ble_eq_true rfl, Nat.le_of_ble_eq_true rfl⟩) (fpreV E hP hS fc7 h7_217 (by omega)) rfl rfl hl.1 rfl (lv_room (Nat.le_of_ble_eq_true rfl)) dL_same_1080 ⟨Nat.zero_le _, Nat.zero_le _⟩) hS (fun r_1080 ct_218 H locs p_1080 hP hS => ?_)
                            have h_219 : ct_218 239 = .inl (fcI g, 6, .inl fl) := ((p_1080.2.2 239 (by omega))).trans h_208
                            have h_220 : ct_218 240 = .inl (fcI g, 6, .inl fsc) := ((p_1080.2.2 240 (by omega))).trans h_209
                            have h_221 : ct_218 241 = .inl (fcI g, 6, .inl fgu) := ((p_1080.2.2 241 (by omega))).trans h_210
                            have h_222 : ct_218 242 = .inl (fcI g, 60, .inl fr) := ((p_1080.2.2 242 (by omega))).trans h_211
                            have h_223 : ct_218 243 = .inl (fcI g, 3, .inl fq) := ((p_1080.2.2 243 (by omega))).trans h_212
                            have h_224 : ct_218 244 = .inl (fcI g, 6, .inl f5) := ((p_1080.2.2 244 (by omega))).trans h_213
                            have h_225 : ct_218 245 = .inl (fcI g, 51, .inl fC) := ((p_1080.2.2 245 (by omega))).trans h_214
                            have hO_226 : OGAt g ct_218 σ k hs u1 s1 u2 s2 t len := p_1080.2.1
                            obtain ⟨f7_227, h7_228⟩ := hO_226.obj
                            refine lv_iload hx hb dL_same_1083 (lv_at hl 15 rfl) ?_
                            refine lv_if_eq (tgt := 1093) hx hb dL_same_1085 (by decide) (fun c_1085 => ?_) (fun c_1085 => ?_)
                            · have c_1085 := (fb_0 (rfl : (bI (suN kd a0 b0)) = (bI (suN kd a0 b0)))).mp c_1085
                              refine lv_bipush (v := (-2)) hx hb dL_same_1093 (by decide) ?_
                              refine lv_icmp_ne (tgt := 1102) hx hb dL_same_1095 (by decide) (fun c_1095 => ?_) (fun c_1095 => ?_)
                              · refine lv_iconst (v := (nI 0)) hx hb dL_same_1102 (by decide) ?_
                                refine fs_zret E hr rfl hlk hP hS dL_same_1103 ?_
                                exact absurd (p_1080.1.trans (ip_no hn6 hkd ha0 hb4 hb5 c_1085)) c_1095
                              · refine lv_iconst (v := (nI 1)) hx hb dL_same_1098 (by decide) ?_
                                refine lv_goto (tgt := 1103) hx hb dL_same_1099 (by decide) ?_
                                refine fs_zret E hr rfl hlk hP hS dL_same_1103 ?_
                                exact ⟨rfl, hO_226, ⟨h_219, h_220, h_221, h_222, h_223⟩, ⟨_, h_224⟩, ⟨_, h_225⟩⟩
                            · have c_1085 := (fb_1 (rfl : (bI (suN kd a0 b0)) = (bI (suN kd a0 b0)))).mp c_1085
                              refine lv_iload hx hb dL_same_1088 (lv_at hl 1 rfl) ?_
                              refine lv_goto (tgt := 1095) hx hb dL_same_1090 (by decide) ?_
                              refine lv_icmp_ne (tgt := 1102) hx hb dL_same_1095 (by decide) (fun c_1095 => ?_) (fun c_1095 => ?_)
                              · refine lv_iconst (v := (nI 0)) hx hb dL_same_1102 (by decide) ?_
                                refine fs_zret E hr rfl hlk hP hS dL_same_1103 ?_
                                exact absurd (p_1080.1.trans (ip_yes hn6 hkd ha0 hb4 hb5 c_1085)) c_1095
                              · refine lv_iconst (v := (nI 1)) hx hb dL_same_1098 (by decide) ?_
                                refine lv_goto (tgt := 1103) hx hb dL_same_1099 (by decide) ?_
                                refine fs_zret E hr rfl hlk hP hS dL_same_1103 ?_
                                exact ⟨rfl, hO_226, ⟨h_219, h_220, h_221, h_222, h_223⟩, ⟨_, h_224⟩, ⟨_, h_225⟩⟩
                        refine lv_iload hx hb dL_same_1016 (lv_at hl 15 rfl) ?_
                        refine lv_iload hx hb dL_same_1018 (lv_at hl 13 rfl) ?_
                        refine lv_if_eq (tgt := 1044) hx hb dL_same_1020 (by decide) (fun c_1020 => ?_) (fun c_1020 => ?_)
                        · have c_1020 := (fb_0 (rfl : (bI (suN kd a0 b0)) = (bI (suN kd a0 b0)))).mp c_1020
                          refine lv_iconst (v := (nI 0)) hx hb dL_same_1044 (by decide) ?_
                          refine lv_iadd hx hb dL_same_1045 ?_
                          refine fs_vi (y := (nI (prv σ kd a0 b0 (mm + 1)))) (by rw [prv_no c_1020]; exact nI_add _ 0) ?_
                          exact K_1046 _ hS
                        · have c_1020 := (fb_1 (rfl : (bI (suN kd a0 b0)) = (bI (suN kd a0 b0)))).mp c_1020
                          have hok9 := su_ok hkd ha0 hb4 hb5 c_1020
                          refine lv_iload hx hb dL_same_1023 (lv_at hl 10 rfl) ?_
                          refine lv_iload hx hb dL_same_1025 (lv_at hl 11 rfl) ?_
                          refine lv_iload hx hb dL_same_1027 (lv_at hl 12 rfl) ?_
                          refine lv_aload hx hb dL_same_1029 (lv_at hl 7 rfl) ?_
                          refine lv_aload_n hx hb dL_same_1031 rfl (lv_at hl 2 rfl) ?_
                          refine lv_iconst (v := (nI 0)) hx hb dL_same_1032 (by decide) ?_
                          refine fs_iald E hP (k := 243) h43 (by omega) (vp_in_nI (by omega) (by omega)) dL_same_1033 ?_
                          refine fs_vi (y := fq 0) (congrArg fq (nI_clamp (by omega))) ?_
                          refine fs_vi (y := (nI (nB σ))) hQ.1 ?_
                          refine fs_pi (va_runS (As := [.int (nI kd), .int (nI a0), .int (nI b0), .ref (fa g 244), .int (nI (nB σ))]) (rest := [.int (nI (prv σ kd a0 b0 mm))]) E.1 (c_L_holds l g N ct_194 (nB σ) kd a0 b0 244 f1 (wd (nB σ) mm) (by omega) hn6 hok9 hw1 (wd_ok hn3 mm) h44) (lk_RL_10 E.1.2.2.2.2 ⟨Nat.le_of_ble_eq_true rfl, Nat.le_of_ble_eq_true rfl⟩) (fpreS E hP hS) rfl rfl hl.1 rfl (lv_room (Nat.le_of_ble_eq_true rfl)) dL_same_1034 ⟨Nat.zero_le _, Nat.zero_le _⟩) hS (fun r_1034 locs p_1034 hS => ?_)
                          refine lv_if_eq (tgt := 1044) hx hb dL_same_1037 (by decide) (fun c_1037 => ?_) (fun c_1037 => ?_)
                          · have c_1037 := (fb_0 p_1034).mp c_1037
                            refine lv_iconst (v := (nI 0)) hx hb dL_same_1044 (by decide) ?_
                            refine lv_iadd hx hb dL_same_1045 ?_
                            refine fs_vi (y := (nI (prv σ kd a0 b0 (mm + 1)))) (by rw [prv_miss c_1037]; exact nI_add _ 0) ?_
                            exact K_1046 _ hS
                          · have c_1037 := (fb_1 p_1034).mp c_1037
                            refine lv_iconst (v := (nI 1)) hx hb dL_same_1040 (by decide) ?_
                            refine lv_goto (tgt := 1045) hx hb dL_same_1041 (by decide) ?_
                            refine lv_iadd hx hb dL_same_1045 ?_
                            refine fs_vi (y := (nI (prv σ kd a0 b0 (mm + 1)))) (by rw [prv_hit c_1020 hok c_1037]; exact nI_add _ _) ?_
                            exact K_1046 _ hS
                      · rw [nI_leI (by omega) (by omega)] at c_982
                        refine lv_iload hx hb dL_same_985 (lv_at hl 14 rfl) ?_
                        refine lv_iload hx hb dL_same_987 (lv_at hl 9 rfl) ?_
                        refine lv_icmp_ne (tgt := 1016) hx hb dL_same_989 (by decide) (fun c_989 => ?_) (fun c_989 => ?_)
                        · rw [nI_eq (by omega) (by omega)] at c_989
                          refine fs_cutS (g := g) (F0 m 1046 ls [.int (nI (prv σ kd a0 b0 (mm + 1)))]) (fun locs hS => ?_) (fun K_1046 => ?_)
                          · skip
                            refine lv_istore (lv' := [(23, .int (nI (prv σ kd a0 b0 (mm + 1)))), (0, .ref (fa g 0)), (1, .int x), (2, .ref (fa g 243)), (3, .ref (fa g 239)), (4, .ref (fa g 240)), (5, .ref (fa g 241)), (6, .ref (fa g 242)), (7, .ref (fa g 244)), (8, .ref (fa g 245)), (17, .int (nI num)), (18, .int (nI kd)), (19, .int (nI a0)), (20, .int (nI b0)), (21, .int (bI (suN kd a0 b0))), (22, .int (nI (cN (okq σ) mm))), (24, .int (nI pp))]) hx hb dL_same_1046 hl (by decide) rfl (fun ls hl => ?_)
                            refine lv_iinc (v := (nI (cN (okq σ) (mm + 1)))) (lv' := [(22, .int (nI (cN (okq σ) (mm + 1)))), (23, .int (nI (prv σ kd a0 b0 (mm + 1)))), (0, .ref (fa g 0)), (1, .int x), (2, .ref (fa g 243)), (3, .ref (fa g 239)), (4, .ref (fa g 240)), (5, .ref (fa g 241)), (6, .ref (fa g 242)), (7, .ref (fa g 244)), (8, .ref (fa g 245)), (17, .int (nI num)), (18, .int (nI kd)), (19, .int (nI a0)), (20, .int (nI b0)), (21, .int (bI (suN kd a0 b0))), (24, .int (nI pp))]) hx hb dL_same_1048 hl (k := 15) rfl (by rw [cN_t hok]; exact nI_1 _) (by decide) rfl (fun ls hl => ?_)
                            refine lv_aload_n hx hb dL_same_1051 rfl (lv_at hl 4 rfl) ?_
                            refine lv_aload hx hb dL_same_1052 (lv_at hl 9 rfl) ?_
                            refine fs_i (va_runS (As := [.ref (fa g 243), .ref (fa g 244)]) (rest := []) E.1 (c_L_next l g N ct_194 σ (by omega) hG fq h43 hQ f1 h44 mm hm hw1) (lk_RL_28 E.1.2.2.2.2 ⟨Nat.le_of_ble_eq_true rfl, Nat.le_of_ble_eq_true rfl⟩) (fpreS E hP hS) rfl rfl hl.1 rfl (lv_room (Nat.le_of_ble_eq_true rfl)) dL_same_1054 ⟨Nat.zero_le _, Nat.zero_le _⟩) hS (fun r_1054 ct_229 H locs p_1054 hP hS => ?_)
                            obtain ⟨f5, e5, h5⟩ := p_1054
                            have h_230 : ct_229 0 = .inr (7, f7) := by rw [e5]; exact (fu_ne (by omega)).trans h7
                            have h_231 : ct_229 239 = .inl (fcI g, 6, .inl fl) := by rw [e5]; exact (fu_ne (by omega)).trans h39
                            have h_232 : ct_229 240 = .inl (fcI g, 6, .inl fsc) := by rw [e5]; exact (fu_ne (by omega)).trans h40
                            have h_233 : ct_229 241 = .inl (fcI g, 6, .inl fgu) := by rw [e5]; exact (fu_ne (by omega)).trans h41
                            have h_234 : ct_229 242 = .inl (fcI g, 60, .inl fr) := by rw [e5]; exact (fu_ne (by omega)).trans h42
                            have h_235 : ct_229 243 = .inl (fcI g, 3, .inl fq) := by rw [e5]; exact (fu_ne (by omega)).trans h43
                            have h_236 : ct_229 244 = .inl (fcI g, 6, .inl f5) := by rw [e5]; exact fu_eq _ _ _
                            have h_237 : ct_229 245 = .inl (fcI g, 51, .inl fC) := by rw [e5]; exact (fu_ne (by omega)).trans h45
                            have hO_238 : OGAt g ct_229 σ k hs u1 s1 u2 s2 t len := OGAt.keep hO (fun j h1 => by rw [e5]; exact fu_ne (by omega))
                            obtain ⟨f7_239, h7_240⟩ := hO_238.obj
                            rcases h5 with ⟨hm5, rfl, hw5⟩ | ⟨hm5, rfl⟩
                            · refine lv_if_ne (tgt := 959) hx hb dL_same_1057 (by decide) (fun c_1057 => ?_) (fun c_1057 => ?_)
                              rotate_left
                              · exact absurd c_1057 (by decide)
                              exact ih6 (mm + 1) _ _ ls _ (by (try dsimp only); omega) ⟨lv_sub hl [2, 3, 4, 5, 6, 7, 8, 9, 10, 11, 12, 13, 14, 15, 0, 1] rfl, hm5, hO_238, ⟨h_231, h_232, h_233, h_234, h_235⟩, ⟨_, h_236, hw5⟩, h_237⟩ hP hS
                            · refine lv_if_ne (tgt := 959) hx hb dL_same_1057 (by decide) (fun c_1057 => ?_) (fun c_1057 => ?_)
                              · exact absurd c_1057 (by decide)
                              rw [hm5] at hl
                              refine lv_aload_n hx hb dL_same_1060 rfl (lv_at hl 2 rfl) ?_
                              refine lv_aload hx hb dL_same_1061 (lv_at hl 10 rfl) ?_
                              refine lv_iconst (v := (nI 0)) hx hb dL_same_1063 (by decide) ?_
                              refine fs_iald E hP (k := 245) h_237 (by omega) (vp_in_nI (by omega) (by omega)) dL_same_1064 ?_
                              refine fs_vi (y := fC 0) (congrArg fC (nI_clamp (by omega))) ?_
                              refine fs_vi (y := (nI (Wn σ))) hCO.1 ?_
                              refine lv_iconst (v := (nI 0)) hx hb dL_same_1065 (by decide) ?_
                              refine fs_i (va_runV (As := [.int (nI (Wn σ)), .int (nI 0)]) (rest := []) E.1 (c_X7_world l g N ct_229 σ k hs u1 s1 u2 s2 t len (by omega) hO_238 (nI (Wn σ)) (nI 0)) (lk_RL_71 E.1.2.2.2.2 ⟨Nat.le_of_ble_eq_true rfl, Nat.le_of_ble_eq_true rfl⟩) (fpreV E hP hS fc7 h7_240 (by omega)) rfl rfl hl.1 rfl (lv_room (Nat.le_of_ble_eq_true rfl)) dL_same_1066 ⟨Nat.zero_le _, Nat.zero_le _⟩) hS (fun r_1066 ct_241 H locs p_1066 hP hS => ?_)
                              have h_242 : ct_241 239 = .inl (fcI g, 6, .inl fl) := ((p_1066.2.2 239 (by omega))).trans h_231
                              have h_243 : ct_241 240 = .inl (fcI g, 6, .inl fsc) := ((p_1066.2.2 240 (by omega))).trans h_232
                              have h_244 : ct_241 241 = .inl (fcI g, 6, .inl fgu) := ((p_1066.2.2 241 (by omega))).trans h_233
                              have h_245 : ct_241 242 = .inl (fcI g, 60, .inl fr) := ((p_1066.2.2 242 (by omega))).trans h_234
                              have h_246 : ct_241 243 = .inl (fcI g, 3, .inl fq) := ((p_1066.2.2 243 (by omega))).trans h_235
                              have h_247 : ct_241 244 = .inl (fcI g, 6, .inl f5) := ((p_1066.2.2 244 (by omega))).trans h_236
                              have h_248 : ct_241 245 = .inl (fcI g, 51, .inl fC) := ((p_1066.2.2 245 (by omega))).trans h_237
                              have hO_249 : OGAt g ct_241 σ k hs u1 s1 u2 s2 t len := p_1066.2.1
                              obtain ⟨f7_250, h7_251⟩ := hO_249.obj
                              refine fs_vi (y := (-1)) (p_1066.1.trans ((wo_a (by omega) hn6).trans (wl_end hG))) ?_
                              refine lv_iconst (v := (-1)) hx hb dL_same_1069 (by decide) ?_
                              refine lv_icmp_ne (tgt := 1102) hx hb dL_same_1070 (by decide) (fun c_1070 => ?_) (fun c_1070 => ?_)
                              · exact absurd rfl c_1070
                              refine lv_aload_n hx hb dL_same_1073 rfl (lv_at hl 2 rfl) ?_
                              refine lv_iload hx hb dL_same_1074 (lv_at hl 12 rfl) ?_
                              refine lv_iload hx hb dL_same_1076 (lv_at hl 13 rfl) ?_
                              refine lv_iload hx hb dL_same_1078 (lv_at hl 14 rfl) ?_
                              refine fs_i (va_runV (As := [.int (nI kd), .int (nI a0), .int (nI b0)]) (rest := []) E.1 (c_X7_ifProved l g N ct_241 σ k hs u1 s1 u2 s2 t len (by omega) hO_249 (nI kd) (nI a0) (nI b0)) (lk_RL_74 E.1.2.2.2.2 ⟨Nat.le_of_ble_eq_true rfl, Nat.le_of_ble_eq_true rfl⟩) (fpreV E hP hS fc7 h7_251 (by omega)) rfl rfl hl.1 rfl (lv_room (Nat.le_of_ble_eq_true rfl)) dL_same_1080 ⟨Nat.zero_le _, Nat.zero_le _⟩) hS (fun r_1080 ct_252 H locs p_1080 hP hS => ?_)
                              have h_253 : ct_252 239 = .inl (fcI g, 6, .inl fl) := ((p_1080.2.2 239 (by omega))).trans h_242
                              have h_254 : ct_252 240 = .inl (fcI g, 6, .inl fsc) := ((p_1080.2.2 240 (by omega))).trans h_243
                              have h_255 : ct_252 241 = .inl (fcI g, 6, .inl fgu) := ((p_1080.2.2 241 (by omega))).trans h_244
                              have h_256 : ct_252 242 = .inl (fcI g, 60, .inl fr) := ((p_1080.2.2 242 (by omega))).trans h_245
                              have h_257 : ct_252 243 = .inl (fcI g, 3, .inl fq) := ((p_1080.2.2 243 (by omega))).trans h_246
                              have h_258 : ct_252 244 = .inl (fcI g, 6, .inl f5) := ((p_1080.2.2 244 (by omega))).trans h_247
                              have h_259 : ct_252 245 = .inl (fcI g, 51, .inl fC) := ((p_1080.2.2 245 (by omega))).trans h_248
                              have hO_260 : OGAt g ct_252 σ k hs u1 s1 u2 s2 t len := p_1080.2.1
                              obtain ⟨f7_261, h7_262⟩ := hO_260.obj
                              refine lv_iload hx hb dL_same_1083 (lv_at hl 15 rfl) ?_
                              refine lv_if_eq (tgt := 1093) hx hb dL_same_1085 (by decide) (fun c_1085 => ?_) (fun c_1085 => ?_)
                              · have c_1085 := (fb_0 (rfl : (bI (suN kd a0 b0)) = (bI (suN kd a0 b0)))).mp c_1085
                                refine lv_bipush (v := (-2)) hx hb dL_same_1093 (by decide) ?_
                                refine lv_icmp_ne (tgt := 1102) hx hb dL_same_1095 (by decide) (fun c_1095 => ?_) (fun c_1095 => ?_)
                                · refine lv_iconst (v := (nI 0)) hx hb dL_same_1102 (by decide) ?_
                                  refine fs_zret E hr rfl hlk hP hS dL_same_1103 ?_
                                  exact absurd (p_1080.1.trans (ip_no hn6 hkd ha0 hb4 hb5 c_1085)) c_1095
                                · refine lv_iconst (v := (nI 1)) hx hb dL_same_1098 (by decide) ?_
                                  refine lv_goto (tgt := 1103) hx hb dL_same_1099 (by decide) ?_
                                  refine fs_zret E hr rfl hlk hP hS dL_same_1103 ?_
                                  exact ⟨rfl, hO_260, ⟨h_253, h_254, h_255, h_256, h_257⟩, ⟨_, h_258⟩, ⟨_, h_259⟩⟩
                              · have c_1085 := (fb_1 (rfl : (bI (suN kd a0 b0)) = (bI (suN kd a0 b0)))).mp c_1085
                                refine lv_iload hx hb dL_same_1088 (lv_at hl 1 rfl) ?_
                                refine lv_goto (tgt := 1095) hx hb dL_same_1090 (by decide) ?_
                                refine lv_icmp_ne (tgt := 1102) hx hb dL_same_1095 (by decide) (fun c_1095 => ?_) (fun c_1095 => ?_)
                                · refine lv_iconst (v := (nI 0)) hx hb dL_same_1102 (by decide) ?_
                                  refine fs_zret E hr rfl hlk hP hS dL_same_1103 ?_
                                  exact absurd (p_1080.1.trans (ip_yes hn6 hkd ha0 hb4 hb5 c_1085)) c_1095
                                · refine lv_iconst (v := (nI 1)) hx hb dL_same_1098 (by decide) ?_
                                  refine lv_goto (tgt := 1103) hx hb dL_same_1099 (by decide) ?_
                                  refine fs_zret E hr rfl hlk hP hS dL_same_1103 ?_
                                  exact ⟨rfl, hO_260, ⟨h_253, h_254, h_255, h_256, h_257⟩, ⟨_, h_258⟩, ⟨_, h_259⟩⟩
                          refine lv_iload hx hb dL_same_1016 (lv_at hl 15 rfl) ?_
                          refine lv_iload hx hb dL_same_1018 (lv_at hl 13 rfl) ?_
                          refine lv_if_eq (tgt := 1044) hx hb dL_same_1020 (by decide) (fun c_1020 => ?_) (fun c_1020 => ?_)
                          · have c_1020 := (fb_0 (rfl : (bI (suN kd a0 b0)) = (bI (suN kd a0 b0)))).mp c_1020
                            refine lv_iconst (v := (nI 0)) hx hb dL_same_1044 (by decide) ?_
                            refine lv_iadd hx hb dL_same_1045 ?_
                            refine fs_vi (y := (nI (prv σ kd a0 b0 (mm + 1)))) (by rw [prv_no c_1020]; exact nI_add _ 0) ?_
                            exact K_1046 _ hS
                          · have c_1020 := (fb_1 (rfl : (bI (suN kd a0 b0)) = (bI (suN kd a0 b0)))).mp c_1020
                            have hok9 := su_ok hkd ha0 hb4 hb5 c_1020
                            refine lv_iload hx hb dL_same_1023 (lv_at hl 10 rfl) ?_
                            refine lv_iload hx hb dL_same_1025 (lv_at hl 11 rfl) ?_
                            refine lv_iload hx hb dL_same_1027 (lv_at hl 12 rfl) ?_
                            refine lv_aload hx hb dL_same_1029 (lv_at hl 7 rfl) ?_
                            refine lv_aload_n hx hb dL_same_1031 rfl (lv_at hl 2 rfl) ?_
                            refine lv_iconst (v := (nI 0)) hx hb dL_same_1032 (by decide) ?_
                            refine fs_iald E hP (k := 243) h43 (by omega) (vp_in_nI (by omega) (by omega)) dL_same_1033 ?_
                            refine fs_vi (y := fq 0) (congrArg fq (nI_clamp (by omega))) ?_
                            refine fs_vi (y := (nI (nB σ))) hQ.1 ?_
                            refine fs_pi (va_runS (As := [.int (nI kd), .int (nI a0), .int (nI b0), .ref (fa g 244), .int (nI (nB σ))]) (rest := [.int (nI (prv σ kd a0 b0 mm))]) E.1 (c_L_holds l g N ct_194 (nB σ) kd a0 b0 244 f1 (wd (nB σ) mm) (by omega) hn6 hok9 hw1 (wd_ok hn3 mm) h44) (lk_RL_10 E.1.2.2.2.2 ⟨Nat.le_of_ble_eq_true rfl, Nat.le_of_ble_eq_true rfl⟩) (fpreS E hP hS) rfl rfl hl.1 rfl (lv_room (Nat.le_of_ble_eq_true rfl)) dL_same_1034 ⟨Nat.zero_le _, Nat.zero_le _⟩) hS (fun r_1034 locs p_1034 hS => ?_)
                            refine lv_if_eq (tgt := 1044) hx hb dL_same_1037 (by decide) (fun c_1037 => ?_) (fun c_1037 => ?_)
                            · have c_1037 := (fb_0 p_1034).mp c_1037
                              refine lv_iconst (v := (nI 0)) hx hb dL_same_1044 (by decide) ?_
                              refine lv_iadd hx hb dL_same_1045 ?_
                              refine fs_vi (y := (nI (prv σ kd a0 b0 (mm + 1)))) (by rw [prv_miss c_1037]; exact nI_add _ 0) ?_
                              exact K_1046 _ hS
                            · have c_1037 := (fb_1 p_1034).mp c_1037
                              refine lv_iconst (v := (nI 1)) hx hb dL_same_1040 (by decide) ?_
                              refine lv_goto (tgt := 1045) hx hb dL_same_1041 (by decide) ?_
                              refine lv_iadd hx hb dL_same_1045 ?_
                              refine fs_vi (y := (nI (prv σ kd a0 b0 (mm + 1)))) (by rw [prv_hit c_1020 hok c_1037]; exact nI_add _ _) ?_
                              exact K_1046 _ hS
                        · rw [nI_eq (by omega) (by omega)] at c_989
                          refine lv_aload_n hx hb dL_same_992 rfl (lv_at hl 0 rfl) ?_
                          refine lv_iload hx hb dL_same_993 (lv_at hl 9 rfl) ?_
                          refine lv_iload hx hb dL_same_995 (lv_at hl 16 rfl) ?_
                          refine fs_i (va_runV (As := [.int (nI num), .int (nI pp)]) (rest := []) E.1 (c_X7_world l g N ct_194 σ k hs u1 s1 u2 s2 t len (by omega) hO (nI num) (nI pp)) (lk_RL_71 E.1.2.2.2.2 ⟨Nat.le_of_ble_eq_true rfl, Nat.le_of_ble_eq_true rfl⟩) (fpreV E hP hS fc7 h7 (by omega)) rfl rfl hl.1 rfl (lv_room (Nat.le_of_ble_eq_true rfl)) dL_same_997 ⟨Nat.zero_le _, Nat.zero_le _⟩) hS (fun r_997 ct_263 H locs p_997 hP hS => ?_)
                          have h_264 : ct_263 239 = .inl (fcI g, 6, .inl fl) := ((p_997.2.2 239 (by omega))).trans h39
                          have h_265 : ct_263 240 = .inl (fcI g, 6, .inl fsc) := ((p_997.2.2 240 (by omega))).trans h40
                          have h_266 : ct_263 241 = .inl (fcI g, 6, .inl fgu) := ((p_997.2.2 241 (by omega))).trans h41
                          have h_267 : ct_263 242 = .inl (fcI g, 60, .inl fr) := ((p_997.2.2 242 (by omega))).trans h42
                          have h_268 : ct_263 243 = .inl (fcI g, 3, .inl fq) := ((p_997.2.2 243 (by omega))).trans h43
                          have h_269 : ct_263 244 = .inl (fcI g, 6, .inl f1) := ((p_997.2.2 244 (by omega))).trans h44
                          have h_270 : ct_263 245 = .inl (fcI g, 51, .inl fC) := ((p_997.2.2 245 (by omega))).trans h45
                          have hO_271 : OGAt g ct_263 σ k hs u1 s1 u2 s2 t len := p_997.2.1
                          obtain ⟨f7_272, h7_273⟩ := hO_271.obj
                          refine fs_vi (y := (nI (wd (nB σ) mm pp))) (p_997.1.trans ((wo_a (by omega) hn6).trans (wlF_hit hm (by omega) hok (congrArg nI c_989)))) ?_
                          refine lv_aload hx hb dL_same_1000 (lv_at hl 7 rfl) ?_
                          refine lv_iload hx hb dL_same_1002 (lv_at hl 16 rfl) ?_
                          refine fs_iald E hP (k := 244) h_269 (by omega) (vp_in_nI (by omega) (by omega)) dL_same_1004 ?_
                          refine fs_vi (y := f1 pp) (congrArg f1 (nI_clamp (by omega))) ?_
                          refine fs_vi (y := (nI (wd (nB σ) mm pp))) (hw1 _ (by omega)) ?_
                          refine lv_icmp_eq (tgt := 1010) hx hb dL_same_1005 (by decide) (fun c_1005 => ?_) (fun c_1005 => ?_)
                          rotate_left
                          · exact absurd rfl c_1005
                          refine lv_iinc (v := (nI (pp + 1))) (lv' := [(24, .int (nI (pp + 1))), (0, .ref (fa g 0)), (1, .int x), (2, .ref (fa g 243)), (3, .ref (fa g 239)), (4, .ref (fa g 240)), (5, .ref (fa g 241)), (6, .ref (fa g 242)), (7, .ref (fa g 244)), (8, .ref (fa g 245)), (17, .int (nI num)), (18, .int (nI kd)), (19, .int (nI a0)), (20, .int (nI b0)), (21, .int (bI (suN kd a0 b0))), (22, .int (nI (cN (okq σ) mm))), (23, .int (nI (prv σ kd a0 b0 mm)))]) hx hb dL_same_1010 hl (k := 16) rfl (nI_1 _) (by decide) rfl (fun ls hl => ?_)
                          refine lv_goto (tgt := 977) hx hb dL_same_1013 (by decide) ?_
                          exact ih7 (pp + 1) _ _ ls _ (by (try dsimp only); omega) ⟨lv_sub hl [1, 2, 3, 4, 5, 6, 7, 8, 9, 10, 11, 12, 13, 14, 15, 16, 0] rfl, by omega, hO_271, ⟨h_264, h_265, h_266, h_267, h_268⟩, h_269, h_270⟩ hP hS
                    · have c_968 := (fb_0 p30).mp c_968
                      have hno : okq σ mm = false := Bool.eq_false_iff.mpr c_968
                      have e22 : (nI (cN (okq σ) mm)) = (nI (cN (okq σ) (mm + 1))) := by rw [cN_f hno]
                      have e23 : (nI (prv σ kd a0 b0 mm)) = (nI (prv σ kd a0 b0 (mm + 1))) := by rw [prv_skip hno]
                      rw [e22, e23] at hl
                      refine lv_goto (tgt := 1051) hx hb dL_same_971 (by decide) ?_
                      refine lv_aload_n hx hb dL_same_1051 rfl (lv_at hl 2 rfl) ?_
                      refine lv_aload hx hb dL_same_1052 (lv_at hl 7 rfl) ?_
                      refine fs_i (va_runS (As := [.ref (fa g 243), .ref (fa g 244)]) (rest := []) E.1 (c_L_next l g N ct_193 σ (by omega) hG fq h43 hQ f1 h44 mm hm hw1) (lk_RL_28 E.1.2.2.2.2 ⟨Nat.le_of_ble_eq_true rfl, Nat.le_of_ble_eq_true rfl⟩) (fpreS E hP hS) rfl rfl hl.1 rfl (lv_room (Nat.le_of_ble_eq_true rfl)) dL_same_1054 ⟨Nat.zero_le _, Nat.zero_le _⟩) hS (fun r_1054 ct_274 H locs p_1054 hP hS => ?_)
                      obtain ⟨f5, e5, h5⟩ := p_1054
                      have h_275 : ct_274 0 = .inr (7, f7) := by rw [e5]; exact (fu_ne (by omega)).trans h7
                      have h_276 : ct_274 239 = .inl (fcI g, 6, .inl fl) := by rw [e5]; exact (fu_ne (by omega)).trans h39
                      have h_277 : ct_274 240 = .inl (fcI g, 6, .inl fsc) := by rw [e5]; exact (fu_ne (by omega)).trans h40
                      have h_278 : ct_274 241 = .inl (fcI g, 6, .inl fgu) := by rw [e5]; exact (fu_ne (by omega)).trans h41
                      have h_279 : ct_274 242 = .inl (fcI g, 60, .inl fr) := by rw [e5]; exact (fu_ne (by omega)).trans h42
                      have h_280 : ct_274 243 = .inl (fcI g, 3, .inl fq) := by rw [e5]; exact (fu_ne (by omega)).trans h43
                      have h_281 : ct_274 244 = .inl (fcI g, 6, .inl f5) := by rw [e5]; exact fu_eq _ _ _
                      have h_282 : ct_274 245 = .inl (fcI g, 51, .inl fC) := by rw [e5]; exact (fu_ne (by omega)).trans h45
                      have hO_283 : OGAt g ct_274 σ k hs u1 s1 u2 s2 t len := OGAt.keep hO (fun j h1 => by rw [e5]; exact fu_ne (by omega))
                      obtain ⟨f7_284, h7_285⟩ := hO_283.obj
                      rcases h5 with ⟨hm5, rfl, hw5⟩ | ⟨hm5, rfl⟩
                      · refine lv_if_ne (tgt := 959) hx hb dL_same_1057 (by decide) (fun c_1057 => ?_) (fun c_1057 => ?_)
                        rotate_left
                        · exact absurd c_1057 (by decide)
                        exact ih6 (mm + 1) _ _ ls _ (by (try dsimp only); omega) ⟨lv_sub hl [0, 1, 2, 3, 4, 5, 6, 7, 8, 9, 10, 11, 12, 13, 14, 15] rfl, hm5, hO_283, ⟨h_276, h_277, h_278, h_279, h_280⟩, ⟨_, h_281, hw5⟩, h_282⟩ hP hS
                      · refine lv_if_ne (tgt := 959) hx hb dL_same_1057 (by decide) (fun c_1057 => ?_) (fun c_1057 => ?_)
                        · exact absurd c_1057 (by decide)
                        rw [hm5] at hl
                        refine lv_aload_n hx hb dL_same_1060 rfl (lv_at hl 0 rfl) ?_
                        refine lv_aload hx hb dL_same_1061 (lv_at hl 8 rfl) ?_
                        refine lv_iconst (v := (nI 0)) hx hb dL_same_1063 (by decide) ?_
                        refine fs_iald E hP (k := 245) h_282 (by omega) (vp_in_nI (by omega) (by omega)) dL_same_1064 ?_
                        refine fs_vi (y := fC 0) (congrArg fC (nI_clamp (by omega))) ?_
                        refine fs_vi (y := (nI (Wn σ))) hCO.1 ?_
                        refine lv_iconst (v := (nI 0)) hx hb dL_same_1065 (by decide) ?_
                        refine fs_i (va_runV (As := [.int (nI (Wn σ)), .int (nI 0)]) (rest := []) E.1 (c_X7_world l g N ct_274 σ k hs u1 s1 u2 s2 t len (by omega) hO_283 (nI (Wn σ)) (nI 0)) (lk_RL_71 E.1.2.2.2.2 ⟨Nat.le_of_ble_eq_true rfl, Nat.le_of_ble_eq_true rfl⟩) (fpreV E hP hS fc7 h7_285 (by omega)) rfl rfl hl.1 rfl (lv_room (Nat.le_of_ble_eq_true rfl)) dL_same_1066 ⟨Nat.zero_le _, Nat.zero_le _⟩) hS (fun r_1066 ct_286 H locs p_1066 hP hS => ?_)
                        have h_287 : ct_286 239 = .inl (fcI g, 6, .inl fl) := ((p_1066.2.2 239 (by omega))).trans h_276
                        have h_288 : ct_286 240 = .inl (fcI g, 6, .inl fsc) := ((p_1066.2.2 240 (by omega))).trans h_277
                        have h_289 : ct_286 241 = .inl (fcI g, 6, .inl fgu) := ((p_1066.2.2 241 (by omega))).trans h_278
                        have h_290 : ct_286 242 = .inl (fcI g, 60, .inl fr) := ((p_1066.2.2 242 (by omega))).trans h_279
                        have h_291 : ct_286 243 = .inl (fcI g, 3, .inl fq) := ((p_1066.2.2 243 (by omega))).trans h_280
                        have h_292 : ct_286 244 = .inl (fcI g, 6, .inl f5) := ((p_1066.2.2 244 (by omega))).trans h_281
                        have h_293 : ct_286 245 = .inl (fcI g, 51, .inl fC) := ((p_1066.2.2 245 (by omega))).trans h_282
                        have hO_294 : OGAt g ct_286 σ k hs u1 s1 u2 s2 t len := p_1066.2.1
                        obtain ⟨f7_295, h7_296⟩ := hO_294.obj
                        refine fs_vi (y := (-1)) (p_1066.1.trans ((wo_a (by omega) hn6).trans (wl_end hG))) ?_
                        refine lv_iconst (v := (-1)) hx hb dL_same_1069 (by decide) ?_
                        refine lv_icmp_ne (tgt := 1102) hx hb dL_same_1070 (by decide) (fun c_1070 => ?_) (fun c_1070 => ?_)
                        · exact absurd rfl c_1070
                        refine lv_aload_n hx hb dL_same_1073 rfl (lv_at hl 0 rfl) ?_
                        refine lv_iload hx hb dL_same_1074 (lv_at hl 10 rfl) ?_
                        refine lv_iload hx hb dL_same_1076 (lv_at hl 11 rfl) ?_
                        refine lv_iload hx hb dL_same_1078 (lv_at hl 12 rfl) ?_
                        refine fs_i (va_runV (As := [.int (nI kd), .int (nI a0), .int (nI b0)]) (rest := []) E.1 (c_X7_ifProved l g N ct_286 σ k hs u1 s1 u2 s2 t len (by omega) hO_294 (nI kd) (nI a0) (nI b0)) (lk_RL_74 E.1.2.2.2.2 ⟨Nat.le_of_ble_eq_true rfl, Nat.le_of_ble_eq_true rfl⟩) (fpreV E hP hS fc7 h7_296 (by omega)) rfl rfl hl.1 rfl (lv_room (Nat.le_of_ble_eq_true rfl)) dL_same_1080 ⟨Nat.zero_le _, Nat.zero_le _⟩) hS (fun r_1080 ct_297 H locs p_1080 hP hS => ?_)
                        have h_298 : ct_297 239 = .inl (fcI g, 6, .inl fl) := ((p_1080.2.2 239 (by omega))).trans h_287
                        have h_299 : ct_297 240 = .inl (fcI g, 6, .inl fsc) := ((p_1080.2.2 240 (by omega))).trans h_288
                        have h_300 : ct_297 241 = .inl (fcI g, 6, .inl fgu) := ((p_1080.2.2 241 (by omega))).trans h_289
                        have h_301 : ct_297 242 = .inl (fcI g, 60, .inl fr) := ((p_1080.2.2 242 (by omega))).trans h_290
                        have h_302 : ct_297 243 = .inl (fcI g, 3, .inl fq) := ((p_1080.2.2 243 (by omega))).trans h_291
                        have h_303 : ct_297 244 = .inl (fcI g, 6, .inl f5) := ((p_1080.2.2 244 (by omega))).trans h_292
                        have h_304 : ct_297 245 = .inl (fcI g, 51, .inl fC) := ((p_1080.2.2 245 (by omega))).trans h_293
                        have hO_305 : OGAt g ct_297 σ k hs u1 s1 u2 s2 t len := p_1080.2.1
                        obtain ⟨f7_306, h7_307⟩ := hO_305.obj
                        refine lv_iload hx hb dL_same_1083 (lv_at hl 13 rfl) ?_
                        refine lv_if_eq (tgt := 1093) hx hb dL_same_1085 (by decide) (fun c_1085 => ?_) (fun c_1085 => ?_)
                        · have c_1085 := (fb_0 (rfl : (bI (suN kd a0 b0)) = (bI (suN kd a0 b0)))).mp c_1085
                          refine lv_bipush (v := (-2)) hx hb dL_same_1093 (by decide) ?_
                          refine lv_icmp_ne (tgt := 1102) hx hb dL_same_1095 (by decide) (fun c_1095 => ?_) (fun c_1095 => ?_)
                          · refine lv_iconst (v := (nI 0)) hx hb dL_same_1102 (by decide) ?_
                            refine fs_zret E hr rfl hlk hP hS dL_same_1103 ?_
                            exact absurd (p_1080.1.trans (ip_no hn6 hkd ha0 hb4 hb5 c_1085)) c_1095
                          · refine lv_iconst (v := (nI 1)) hx hb dL_same_1098 (by decide) ?_
                            refine lv_goto (tgt := 1103) hx hb dL_same_1099 (by decide) ?_
                            refine fs_zret E hr rfl hlk hP hS dL_same_1103 ?_
                            exact ⟨rfl, hO_305, ⟨h_298, h_299, h_300, h_301, h_302⟩, ⟨_, h_303⟩, ⟨_, h_304⟩⟩
                        · have c_1085 := (fb_1 (rfl : (bI (suN kd a0 b0)) = (bI (suN kd a0 b0)))).mp c_1085
                          refine lv_iload hx hb dL_same_1088 (lv_at hl 15 rfl) ?_
                          refine lv_goto (tgt := 1095) hx hb dL_same_1090 (by decide) ?_
                          refine lv_icmp_ne (tgt := 1102) hx hb dL_same_1095 (by decide) (fun c_1095 => ?_) (fun c_1095 => ?_)
                          · refine lv_iconst (v := (nI 0)) hx hb dL_same_1102 (by decide) ?_
                            refine fs_zret E hr rfl hlk hP hS dL_same_1103 ?_
                            exact absurd (p_1080.1.trans (ip_yes hn6 hkd ha0 hb4 hb5 c_1085)) c_1095
                          · refine lv_iconst (v := (nI 1)) hx hb dL_same_1098 (by decide) ?_
                            refine lv_goto (tgt := 1103) hx hb dL_same_1099 (by decide) ?_
                            refine fs_zret E hr rfl hlk hP hS dL_same_1103 ?_
                            exact ⟨rfl, hO_305, ⟨h_298, h_299, h_300, h_301, h_302⟩, ⟨_, h_303⟩, ⟨_, h_304⟩⟩
                  refine lv_iload hx hb dL_same_927 (lv_at hl 2 rfl) ?_
                  refine lv_iconst (v := (nI 3)) hx hb dL_same_929 (by decide) ?_
                  refine lv_icmp_gt (tgt := 940) hx hb dL_same_930 (by decide) (fun c_930 => ?_) (fun c_930 => ?_)
                  · rw [nI_ltI (by omega) (by omega)] at c_930
                    refine lv_iconst (v := (nI 1)) hx hb dL_same_940 (by decide) ?_
                    refine lv_goto (tgt := 945) hx hb dL_same_941 (by decide) ?_
                    refine fs_vi (y := (bI (suN kd a0 b0))) (bI_t (show 3 < kd ∨ a0 ≠ b0 by omega)) ?_
                    exact K_945 _ hS
                  · rw [nI_ltI (by omega) (by omega)] at c_930
                    refine lv_iload hx hb dL_same_933 (lv_at hl 1 rfl) ?_
                    refine lv_iload hx hb dL_same_935 (lv_at hl 0 rfl) ?_
                    refine lv_icmp_eq (tgt := 944) hx hb dL_same_937 (by decide) (fun c_937 => ?_) (fun c_937 => ?_)
                    · rw [nI_eq (by omega) (by omega)] at c_937
                      refine lv_iconst (v := (nI 0)) hx hb dL_same_944 (by decide) ?_
                      refine fs_vi (y := (bI (suN kd a0 b0))) (bI_f (fun y => by have y2 : 3 < kd ∨ a0 ≠ b0 := y; omega)) ?_
                      exact K_945 _ hS
                    · rw [nI_eq (by omega) (by omega)] at c_937
                      refine lv_iconst (v := (nI 1)) hx hb dL_same_940 (by decide) ?_
                      refine lv_goto (tgt := 945) hx hb dL_same_941 (by decide) ?_
                      refine fs_vi (y := (bI (suN kd a0 b0))) (bI_t (show 3 < kd ∨ a0 ≠ b0 by omega)) ?_
                      exact K_945 _ hS
                refine lv_iload hx hb dL_same_897 (lv_at hl 1 rfl) ?_
                refine lv_iconst (v := (nI 4)) hx hb dL_same_899 (by decide) ?_
                refine lv_icmp_ne (tgt := 915) hx hb dL_same_900 (by decide) (fun c_900 => ?_) (fun c_900 => ?_)
                · rw [nI_eq (by omega) (by omega)] at c_900
                  refine lv_iload_n hx hb dL_same_915 rfl (lv_at hl 4 rfl) ?_
                  refine lv_bipush (v := (nI 7)) hx hb dL_same_916 (by decide) ?_
                  refine lv_ishr hx hb dL_same_918 ?_
                  refine lv_aload_n hx hb dL_same_919 rfl (lv_at hl 5 rfl) ?_
                  refine lv_iconst (v := (nI 0)) hx hb dL_same_920 (by decide) ?_
                  refine fs_iald E hP (k := 243) h_172 (by omega) (vp_in_nI (by omega) (by omega)) dL_same_921 ?_
                  refine fs_vi (y := fq 0) (congrArg fq (nI_clamp (by omega))) ?_
                  refine fs_vi (y := (nI (nB σ))) hQ.1 ?_
                  refine fs_pi (va_runS (As := [.int (x >>> ((nI 7) &&& 31)), .int (nI (nB σ))]) (rest := []) E.1 (c_L_low l g N ct_167 (x >>> ((nI 7) &&& 31)) (nB σ) (by omega) (by omega)) (lk_RL_68 E.1.2.2.2.2 ⟨Nat.le_of_ble_eq_true rfl, Nat.le_of_ble_eq_true rfl⟩) (fpreS E hP hS) rfl rfl hl.1 rfl (lv_room (Nat.le_of_ble_eq_true rfl)) dL_same_922 ⟨Nat.zero_le _, Nat.zero_le _⟩) hS (fun r_922 locs p_922 hS => ?_)
                  obtain ⟨b9, hb9, rfl⟩ := p_922
                  exact K_925 b9 _ ⟨fun y9 => by omega, fun y9 => by omega⟩ hS
                · rw [nI_eq (by omega) (by omega)] at c_900
                  refine lv_iload_n hx hb dL_same_903 rfl (lv_at hl 4 rfl) ?_
                  refine lv_bipush (v := (nI 7)) hx hb dL_same_904 (by decide) ?_
                  refine lv_ishr hx hb dL_same_906 ?_
                  refine lv_bipush (v := (nI 7)) hx hb dL_same_907 (by decide) ?_
                  refine fs_pi (va_runS (As := [.int (x >>> ((nI 7) &&& 31)), .int (nI 7)]) (rest := []) E.1 (c_L_low l g N ct_167 (x >>> ((nI 7) &&& 31)) 7 (by omega) (by omega)) (lk_RL_68 E.1.2.2.2.2 ⟨Nat.le_of_ble_eq_true rfl, Nat.le_of_ble_eq_true rfl⟩) (fpreS E hP hS) rfl rfl hl.1 rfl (lv_room (Nat.le_of_ble_eq_true rfl)) dL_same_909 ⟨Nat.zero_le _, Nat.zero_le _⟩) hS (fun r_909 locs p_909 hS => ?_)
                  obtain ⟨b9, hb9, rfl⟩ := p_909
                  refine lv_goto (tgt := 925) hx hb dL_same_912 (by decide) ?_
                  exact K_925 b9 _ ⟨fun y9 => by omega, fun y9 => by omega⟩ hS
              refine lv_aload hx hb dL_same_842 (lv_at hl 8 rfl) ?_
              refine lv_iconst (v := (nI 0)) hx hb dL_same_844 (by decide) ?_
              refine fs_iald E hP (k := 245) h_174 (by omega) (vp_in_nI (by omega) (by omega)) dL_same_845 ?_
              refine fs_vi (y := fC 0) (congrArg fC (nI_clamp (by omega))) ?_
              refine fs_vi (y := (nI (Wn σ))) hCO.1 ?_
              refine lv_if_ne (tgt := 854) hx hb dL_same_846 (by decide) (fun c_846 => ?_) (fun c_846 => ?_)
              · rw [fz_eqN (by omega)] at c_846
                refine lv_aload hx hb dL_same_854 (lv_at hl 8 rfl) ?_
                refine lv_bipush (v := (nI 49)) hx hb dL_same_856 (by decide) ?_
                refine fs_iald E hP (k := 245) h_174 (by omega) (vp_in_nI (by omega) (by omega)) dL_same_858 ?_
                refine fs_vi (y := fC 49) (congrArg fC (nI_clamp (by omega))) ?_
                refine fs_vi (y := (nI (mwQ σ (mM σ)).2)) hCO.2.2.2.2 ?_
                refine fs_vi (y := (mwR σ (nI 1))) (mw_a2 hG c_846) ?_
                exact K_859 _ hS
              · rw [fz_eqN (by omega)] at c_846
                refine lv_bipush (v := (-6)) hx hb dL_same_849 (by decide) ?_
                refine lv_goto (tgt := 859) hx hb dL_same_851 (by decide) ?_
                refine fs_vi (y := (mwR σ (nI 1))) (mw_a0 c_846) ?_
                exact K_859 _ hS
            refine lv_aload hx hb dL_same_817 (lv_at hl 8 rfl) ?_
            refine lv_iconst (v := (nI 0)) hx hb dL_same_819 (by decide) ?_
            refine fs_iald E hP (k := 245) h_163 (by omega) (vp_in_nI (by omega) (by omega)) dL_same_820 ?_
            refine fs_vi (y := fC 0) (congrArg fC (nI_clamp (by omega))) ?_
            refine fs_vi (y := (nI (Wn σ))) hCO.1 ?_
            refine lv_if_ne (tgt := 829) hx hb dL_same_821 (by decide) (fun c_821 => ?_) (fun c_821 => ?_)
            · rw [fz_eqN (by omega)] at c_821
              refine lv_aload hx hb dL_same_829 (lv_at hl 8 rfl) ?_
              refine lv_bipush (v := (nI 50)) hx hb dL_same_831 (by decide) ?_
              refine fs_iald E hP (k := 245) h_163 (by omega) (vp_in_nI (by omega) (by omega)) dL_same_833 ?_
              refine fs_vi (y := fC 50) (congrArg fC (nI_clamp (by omega))) ?_
              refine fs_vi (y := (nI (mwQ σ (mM σ)).1)) hCO.2.2.2.1 ?_
              refine fs_vi (y := (mwR σ (nI 0))) (mw_a1 hG c_821) ?_
              exact K_834 _ hS
            · rw [fz_eqN (by omega)] at c_821
              refine lv_bipush (v := (-6)) hx hb dL_same_824 (by decide) ?_
              refine lv_goto (tgt := 834) hx hb dL_same_826 (by decide) ?_
              refine fs_vi (y := (mwR σ (nI 0))) (mw_a0 c_821) ?_
              exact K_834 _ hS
          refine lv_iload hx hb dL_same_797 (lv_at hl 15 rfl) ?_
          refine lv_if_ge (tgt := 807) hx hb dL_same_799 (by decide) (fun c_799 => ?_) (fun c_799 => ?_)
          · refine lv_iload hx hb dL_same_807 (lv_at hl 16 rfl) ?_
            refine fs_vi (y := (blR σ (nI 1))) (BL_pos hBL c_799) ?_
            exact K_809 _ hS
          · refine lv_bipush (v := (-6)) hx hb dL_same_802 (by decide) ?_
            refine lv_goto (tgt := 809) hx hb dL_same_804 (by decide) ?_
            refine fs_vi (y := (blR σ (nI 1))) (BL_neg hG hBL c_799) ?_
            exact K_809 _ hS
        refine lv_iload hx hb dL_same_767 (lv_at hl 13 rfl) ?_
        refine lv_if_ge (tgt := 777) hx hb dL_same_769 (by decide) (fun c_769 => ?_) (fun c_769 => ?_)
        · refine lv_iload hx hb dL_same_777 (lv_at hl 14 rfl) ?_
          refine fs_vi (y := (shR σ (nI 1))) (SH_pos hSH c_769) ?_
          exact K_779 _ hS
        · refine lv_bipush (v := (-6)) hx hb dL_same_772 (by decide) ?_
          refine lv_goto (tgt := 779) hx hb dL_same_774 (by decide) ?_
          refine fs_vi (y := (shR σ (nI 1))) (SH_neg hG hSH c_769) ?_
          exact K_779 _ hS
      refine lv_if_eq (tgt := 702) hx hb dL_same_695 (by decide) (fun c_695 => ?_) (fun c_695 => ?_)
      · have c_695 := (fb_0 p30).mp c_695
        refine lv_iconst (v := (nI 0)) hx hb dL_same_702 (by decide) ?_
        refine fs_vi (y := (bI (okB σ (lkf σ) = true))) (bI_f c_695) ?_
        exact K_703 _ hS
      · have c_695 := (fb_1 p30).mp c_695
        refine lv_iconst (v := (nI 1)) hx hb dL_same_698 (by decide) ?_
        refine lv_goto (tgt := 703) hx hb dL_same_699 (by decide) ?_
        refine fs_vi (y := (bI (okB σ (lkf σ) = true))) (bI_t c_695) ?_
        exact K_703 _ hS
    · rw [nI_leI (by omega) (by omega)] at c_331
      have hil : i < nB σ := by omega
      refine lv_iconst (v := (nI 0)) hx hb dL_same_334 (by decide) ?_
      refine lv_istore (lv' := [(18, .int (nI 0)), (0, .ref (fa g 0)), (1, .int x), (2, .ref (fa g 243)), (3, .ref (fa g 239)), (4, .ref (fa g 240)), (5, .ref (fa g 241)), (6, .ref (fa g 242)), (7, .ref (fa g 244)), (8, .ref (fa g 245)), (9, .int (nI (cN (opn σ) (nT σ)))), (10, .int (nI (cN (srF σ) (nT σ)))), (11, .int (nI (cN (nvF σ) (nT σ)))), (12, .int (nI (cN (ceF σ) i))), (13, .int sh), (14, .int le), (15, .int bl), (16, .int mo), (17, .int (nI i))]) hx hb dL_same_335 hl (by decide) rfl (fun ls hl => ?_)
      refine lv_iconst (v := (nI 0)) hx hb dL_same_337 (by decide) ?_
      refine lv_istore (lv' := [(19, .int (nI 0)), (18, .int (nI 0)), (0, .ref (fa g 0)), (1, .int x), (2, .ref (fa g 243)), (3, .ref (fa g 239)), (4, .ref (fa g 240)), (5, .ref (fa g 241)), (6, .ref (fa g 242)), (7, .ref (fa g 244)), (8, .ref (fa g 245)), (9, .int (nI (cN (opn σ) (nT σ)))), (10, .int (nI (cN (srF σ) (nT σ)))), (11, .int (nI (cN (nvF σ) (nT σ)))), (12, .int (nI (cN (ceF σ) i))), (13, .int sh), (14, .int le), (15, .int bl), (16, .int mo), (17, .int (nI i))]) hx hb dL_same_338 hl (by decide) rfl (fun ls hl => ?_)
      refine lv_iconst (v := (nI 0)) hx hb dL_same_340 (by decide) ?_
      refine lv_istore (lv' := [(20, .int (nI 0)), (19, .int (nI 0)), (18, .int (nI 0)), (0, .ref (fa g 0)), (1, .int x), (2, .ref (fa g 243)), (3, .ref (fa g 239)), (4, .ref (fa g 240)), (5, .ref (fa g 241)), (6, .ref (fa g 242)), (7, .ref (fa g 244)), (8, .ref (fa g 245)), (9, .int (nI (cN (opn σ) (nT σ)))), (10, .int (nI (cN (srF σ) (nT σ)))), (11, .int (nI (cN (nvF σ) (nT σ)))), (12, .int (nI (cN (ceF σ) i))), (13, .int sh), (14, .int le), (15, .int bl), (16, .int mo), (17, .int (nI i))]) hx hb dL_same_341 hl (by decide) rfl (fun ls hl => ?_)
      refine lv_bipush (v := (-6)) hx hb dL_same_343 (by decide) ?_
      refine lv_istore (lv' := [(21, .int (-6)), (20, .int (nI 0)), (19, .int (nI 0)), (18, .int (nI 0)), (0, .ref (fa g 0)), (1, .int x), (2, .ref (fa g 243)), (3, .ref (fa g 239)), (4, .ref (fa g 240)), (5, .ref (fa g 241)), (6, .ref (fa g 242)), (7, .ref (fa g 244)), (8, .ref (fa g 245)), (9, .int (nI (cN (opn σ) (nT σ)))), (10, .int (nI (cN (srF σ) (nT σ)))), (11, .int (nI (cN (nvF σ) (nT σ)))), (12, .int (nI (cN (ceF σ) i))), (13, .int sh), (14, .int le), (15, .int bl), (16, .int mo), (17, .int (nI i))]) hx hb dL_same_345 hl (by decide) rfl (fun ls hl => ?_)
      refine lv_iconst (v := (nI 0)) hx hb dL_same_347 (by decide) ?_
      refine lv_istore (lv' := [(22, .int (nI 0)), (21, .int (-6)), (20, .int (nI 0)), (19, .int (nI 0)), (18, .int (nI 0)), (0, .ref (fa g 0)), (1, .int x), (2, .ref (fa g 243)), (3, .ref (fa g 239)), (4, .ref (fa g 240)), (5, .ref (fa g 241)), (6, .ref (fa g 242)), (7, .ref (fa g 244)), (8, .ref (fa g 245)), (9, .int (nI (cN (opn σ) (nT σ)))), (10, .int (nI (cN (srF σ) (nT σ)))), (11, .int (nI (cN (nvF σ) (nT σ)))), (12, .int (nI (cN (ceF σ) i))), (13, .int sh), (14, .int le), (15, .int bl), (16, .int mo), (17, .int (nI i))]) hx hb dL_same_348 hl (by decide) rfl (fun ls hl => ?_)
      refine fs_ind (g := g) (N := N) (St := Nat) (fun (kk : Nat) (ct_308 : Nat → va_E) (ls : Array Slot) => lv_has ls 25 [(0, .ref (fa g 0)), (1, .int x), (2, .ref (fa g 243)), (3, .ref (fa g 239)), (4, .ref (fa g 240)), (5, .ref (fa g 241)), (6, .ref (fa g 242)), (7, .ref (fa g 244)), (8, .ref (fa g 245)), (9, .int (nI (cN (opn σ) (nT σ)))), (10, .int (nI (cN (srF σ) (nT σ)))), (11, .int (nI (cN (nvF σ) (nT σ)))), (12, .int (nI (cN (ceF σ) i))), (13, .int sh), (14, .int le), (15, .int bl), (16, .int mo), (17, .int (nI i)), (18, .int (nI (cN (fun q => decide (lkf σ q = i)) kk))), (19, .int (nI 0)), (20, .int (nI 0)), (21, .int (fnd (crt σ i) kk)), (22, .int (nI kk))] ∧ kk ≤ nB σ ∧ OGAt g ct_308 σ k hs u1 s1 u2 s2 t len ∧ RWS g ct_308 fl fsc fgu fr fq ∧ (∃ fw : Nat → Int32, ct_308 244 = .inl (fcI g, 6, .inl fw)) ∧ ct_308 245 = .inl (fcI g, 51, .inl fC)) (fun (kk : Nat) => nB σ - kk) ?_ 0 _ _ ls _ ⟨lv_sub hl [5, 6, 7, 8, 9, 10, 11, 12, 13, 14, 15, 16, 17, 18, 19, 20, 21, 22, 4, 3, 2, 1, 0] rfl, Nat.zero_le _, hO, ⟨h39, h40, h41, h42, h43⟩, ⟨_, h44⟩, h45⟩ hP hS
      clear hl hP hS
      intro st ct_308 H ls locs hI hP hS ih4
      obtain ⟨kk, rfl⟩ : ∃ z, z = st := ⟨_, rfl⟩
      obtain ⟨hl, hI⟩ := hI
      obtain ⟨hkk, hO, ⟨h39, h40, h41, h42, h43⟩, ⟨fw, h44⟩, h45⟩ := hI
      obtain ⟨f7, h7⟩ := hO.obj
      refine lv_iload hx hb dL_same_350 (lv_at hl 22 rfl) ?_
      refine lv_aload_n hx hb dL_same_352 rfl (lv_at hl 2 rfl) ?_
      refine lv_iconst (v := (nI 0)) hx hb dL_same_353 (by decide) ?_
      refine fs_iald E hP (k := 243) h43 (by omega) (vp_in_nI (by omega) (by omega)) dL_same_354 ?_
      refine fs_vi (y := fq 0) (congrArg fq (nI_clamp (by omega))) ?_
      refine fs_vi (y := (nI (nB σ))) hQ.1 ?_
      refine lv_icmp_ge (tgt := 445) hx hb dL_same_355 (by decide) (fun c_355 => ?_) (fun c_355 => ?_)
      · rw [nI_leI (by omega) (by omega)] at c_355
        obtain rfl : kk = nB σ := by omega
        refine lv_iconst (v := (nI 0)) hx hb dL_same_445 (by decide) ?_
        refine lv_istore (lv' := [(22, .int (nI 0)), (0, .ref (fa g 0)), (1, .int x), (2, .ref (fa g 243)), (3, .ref (fa g 239)), (4, .ref (fa g 240)), (5, .ref (fa g 241)), (6, .ref (fa g 242)), (7, .ref (fa g 244)), (8, .ref (fa g 245)), (9, .int (nI (cN (opn σ) (nT σ)))), (10, .int (nI (cN (srF σ) (nT σ)))), (11, .int (nI (cN (nvF σ) (nT σ)))), (12, .int (nI (cN (ceF σ) i))), (13, .int sh), (14, .int le), (15, .int bl), (16, .int mo), (17, .int (nI i)), (18, .int (nI (cN (fun q => decide (lkf σ q = i)) (nB σ)))), (19, .int (nI 0)), (20, .int (nI 0)), (21, .int (fnd (crt σ i) (nB σ)))]) hx hb dL_same_446 hl (by decide) rfl (fun ls hl => ?_)
        refine fs_indP (g := g) (St := Nat) (fun (rr : Nat) (ls : Array Slot) => lv_has ls 25 [(0, .ref (fa g 0)), (1, .int x), (2, .ref (fa g 243)), (3, .ref (fa g 239)), (4, .ref (fa g 240)), (5, .ref (fa g 241)), (6, .ref (fa g 242)), (7, .ref (fa g 244)), (8, .ref (fa g 245)), (9, .int (nI (cN (opn σ) (nT σ)))), (10, .int (nI (cN (srF σ) (nT σ)))), (11, .int (nI (cN (nvF σ) (nT σ)))), (12, .int (nI (cN (ceF σ) i))), (13, .int sh), (14, .int le), (15, .int bl), (16, .int mo), (17, .int (nI i)), (18, .int (nI (cN (fun q => decide (lkf σ q = i)) (nB σ)))), (19, .int (nI (cN (fun i9 => decide (rk σ i9 0 = i)) rr))), (20, .int (nI (cN (fun i9 => decide (rk σ i9 0 = i) && hdr σ (lkf σ) i9) rr))), (21, .int (fnd (crt σ i) (nB σ))), (22, .int (nI rr))] ∧ rr ≤ nT σ) (fun (rr : Nat) => nT σ - rr) ?_ 0 ls _ ⟨lv_sub hl [1, 2, 3, 4, 5, 6, 7, 8, 9, 10, 11, 12, 13, 14, 15, 16, 17, 18, 19, 20, 21, 22, 0] rfl, Nat.zero_le _⟩ hS
        clear hl hS
        intro st ls locs hI hS ih5
        obtain ⟨rr, rfl⟩ : ∃ z, z = st := ⟨_, rfl⟩
        obtain ⟨hl, hI⟩ := hI
        have hrr := hI
        refine lv_iload hx hb dL_same_448 (lv_at hl 22 rfl) ?_
        refine lv_aload_n hx hb dL_same_450 rfl (lv_at hl 2 rfl) ?_
        refine lv_iconst (v := (nI 1)) hx hb dL_same_451 (by decide) ?_
        refine fs_iald E hP (k := 243) h43 (by omega) (vp_in_nI (by omega) (by omega)) dL_same_452 ?_
        refine fs_vi (y := fq 1) (congrArg fq (nI_clamp (by omega))) ?_
        refine fs_vi (y := (nI (nT σ))) hQ.2 ?_
        refine lv_icmp_ge (tgt := 520) hx hb dL_same_453 (by decide) (fun c_453 => ?_) (fun c_453 => ?_)
        · rw [nI_leI (by omega) (by omega)] at c_453
          obtain rfl : rr = nT σ := by omega
          refine fs_cutS (g := g) (F0 m 533 ls [.int (nI (cN (ceF σ) (i + 1)))]) (fun locs hS => ?_) (fun K_533 => ?_)
          · skip
            refine lv_istore (lv' := [(12, .int (nI (cN (ceF σ) (i + 1)))), (0, .ref (fa g 0)), (1, .int x), (2, .ref (fa g 243)), (3, .ref (fa g 239)), (4, .ref (fa g 240)), (5, .ref (fa g 241)), (6, .ref (fa g 242)), (7, .ref (fa g 244)), (8, .ref (fa g 245)), (9, .int (nI (cN (opn σ) (nT σ)))), (10, .int (nI (cN (srF σ) (nT σ)))), (11, .int (nI (cN (nvF σ) (nT σ)))), (13, .int sh), (14, .int le), (15, .int bl), (16, .int mo), (17, .int (nI i)), (18, .int (nI (cN (fun q => decide (lkf σ q = i)) (nB σ)))), (19, .int (nI (cN (fun i9 => decide (rk σ i9 0 = i)) (nT σ)))), (20, .int (nI (cN (fun i9 => decide (rk σ i9 0 = i) && hdr σ (lkf σ) i9) (nT σ)))), (21, .int (fnd (crt σ i) (nB σ))), (22, .int (nI (nT σ)))]) hx hb dL_same_533 hl (by decide) rfl (fun ls hl => ?_)
            refine lv_aload_n hx hb dL_same_535 rfl (lv_at hl 1 rfl) ?_
            refine lv_iload hx hb dL_same_536 (lv_at hl 17 rfl) ?_
            refine lv_iconst (v := (nI 0)) hx hb dL_same_538 (by decide) ?_
            refine fs_pi (va_runV (As := [.int (nI i), .int (nI 0)]) (rest := []) E.1 (c_X7_person l g N ct_308 σ k hs u1 s1 u2 s2 t len (by omega) hO (nI i) (nI 0)) (lk_RL_49 E.1.2.2.2.2 ⟨Nat.le_of_ble_eq_true rfl, Nat.le_of_ble_eq_true rfl⟩) (fpreV E hP hS fc7 h7 (by omega)) rfl rfl hl.1 rfl (lv_room (Nat.le_of_ble_eq_true rfl)) dL_same_539 ⟨Nat.zero_le _, Nat.zero_le _⟩) hS (fun r_539 locs p_539 hS => ?_)
            refine fs_vi (y := (nI (lkf σ i))) (p_539.trans (ps_a hil hn6)) ?_
            refine lv_aload_n hx hb dL_same_542 rfl (lv_at hl 4 rfl) ?_
            refine lv_iload hx hb dL_same_543 (lv_at hl 17 rfl) ?_
            refine fs_iald E hP (k := 239) h39 (by omega) (vp_in_nI (by omega) (by omega)) dL_same_545 ?_
            refine fs_vi (y := fl i) (congrArg fl (nI_clamp (by omega))) ?_
            refine fs_vi (y := (nI (lkf σ i))) (hL _ (by omega)) ?_
            refine lv_icmp_ne (tgt := 630) hx hb dL_same_546 (by decide) (fun c_546 => ?_) (fun c_546 => ?_)
            · exact absurd rfl c_546
            refine lv_aload_n hx hb dL_same_549 rfl (lv_at hl 1 rfl) ?_
            refine lv_iload hx hb dL_same_550 (lv_at hl 17 rfl) ?_
            refine lv_iconst (v := (nI 1)) hx hb dL_same_552 (by decide) ?_
            refine fs_pi (va_runV (As := [.int (nI i), .int (nI 1)]) (rest := []) E.1 (c_X7_person l g N ct_308 σ k hs u1 s1 u2 s2 t len (by omega) hO (nI i) (nI 1)) (lk_RL_49 E.1.2.2.2.2 ⟨Nat.le_of_ble_eq_true rfl, Nat.le_of_ble_eq_true rfl⟩) (fpreV E hP hS fc7 h7 (by omega)) rfl rfl hl.1 rfl (lv_room (Nat.le_of_ble_eq_true rfl)) dL_same_553 ⟨Nat.zero_le _, Nat.zero_le _⟩) hS (fun r_553 locs p_553 hS => ?_)
            refine fs_vi (y := ((σ (9 + i)) + (nI 1000))) (p_553.trans ((ps_a hil hn6).trans ps_1)) ?_
            refine lv_aload hx hb dL_same_556 (lv_at hl 5 rfl) ?_
            refine lv_iload hx hb dL_same_558 (lv_at hl 17 rfl) ?_
            refine fs_iald E hP (k := 240) h40 (by omega) (vp_in_nI (by omega) (by omega)) dL_same_560 ?_
            refine fs_vi (y := fsc i) (congrArg fsc (nI_clamp (by omega))) ?_
            refine fs_vi (y := (σ (9 + i))) (hSc _ (by omega)) ?_
            refine lv_sipush (v := (nI 1000)) hx hb dL_same_561 (by decide) ?_
            refine lv_iadd hx hb dL_same_564 ?_
            refine lv_icmp_ne (tgt := 630) hx hb dL_same_565 (by decide) (fun c_565 => ?_) (fun c_565 => ?_)
            · exact absurd rfl c_565
            refine lv_aload_n hx hb dL_same_568 rfl (lv_at hl 1 rfl) ?_
            refine lv_iload hx hb dL_same_569 (lv_at hl 17 rfl) ?_
            refine lv_iconst (v := (nI 2)) hx hb dL_same_571 (by decide) ?_
            refine fs_pi (va_runV (As := [.int (nI i), .int (nI 2)]) (rest := []) E.1 (c_X7_person l g N ct_308 σ k hs u1 s1 u2 s2 t len (by omega) hO (nI i) (nI 2)) (lk_RL_49 E.1.2.2.2.2 ⟨Nat.le_of_ble_eq_true rfl, Nat.le_of_ble_eq_true rfl⟩) (fpreV E hP hS fc7 h7 (by omega)) rfl rfl hl.1 rfl (lv_room (Nat.le_of_ble_eq_true rfl)) dL_same_572 ⟨Nat.zero_le _, Nat.zero_le _⟩) hS (fun r_572 locs p_572 hS => ?_)
            refine fs_vi (y := (σ (15 + i))) (p_572.trans (ps_a hil hn6)) ?_
            refine lv_aload hx hb dL_same_575 (lv_at hl 6 rfl) ?_
            refine lv_iload hx hb dL_same_577 (lv_at hl 17 rfl) ?_
            refine fs_iald E hP (k := 241) h41 (by omega) (vp_in_nI (by omega) (by omega)) dL_same_579 ?_
            refine fs_vi (y := fgu i) (congrArg fgu (nI_clamp (by omega))) ?_
            refine fs_vi (y := (σ (15 + i))) (hGu _ (by omega)) ?_
            refine lv_icmp_ne (tgt := 630) hx hb dL_same_580 (by decide) (fun c_580 => ?_) (fun c_580 => ?_)
            · exact absurd rfl c_580
            refine lv_aload_n hx hb dL_same_583 rfl (lv_at hl 1 rfl) ?_
            refine lv_iload hx hb dL_same_584 (lv_at hl 17 rfl) ?_
            refine lv_iconst (v := (nI 3)) hx hb dL_same_586 (by decide) ?_
            refine fs_pi (va_runV (As := [.int (nI i), .int (nI 3)]) (rest := []) E.1 (c_X7_person l g N ct_308 σ k hs u1 s1 u2 s2 t len (by omega) hO (nI i) (nI 3)) (lk_RL_49 E.1.2.2.2.2 ⟨Nat.le_of_ble_eq_true rfl, Nat.le_of_ble_eq_true rfl⟩) (fpreV E hP hS fc7 h7 (by omega)) rfl rfl hl.1 rfl (lv_room (Nat.le_of_ble_eq_true rfl)) dL_same_587 ⟨Nat.zero_le _, Nat.zero_le _⟩) hS (fun r_587 locs p_587 hS => ?_)
            refine fs_vi (y := (nI (cN (fun i9 => decide (rk σ i9 0 = i)) (nT σ)))) (p_587.trans (ps_a hil hn6)) ?_
            refine lv_iload hx hb dL_same_590 (lv_at hl 19 rfl) ?_
            refine lv_icmp_ne (tgt := 630) hx hb dL_same_592 (by decide) (fun c_592 => ?_) (fun c_592 => ?_)
            · exact absurd rfl c_592
            refine lv_aload_n hx hb dL_same_595 rfl (lv_at hl 1 rfl) ?_
            refine lv_iload hx hb dL_same_596 (lv_at hl 17 rfl) ?_
            refine lv_iconst (v := (nI 4)) hx hb dL_same_598 (by decide) ?_
            refine fs_pi (va_runV (As := [.int (nI i), .int (nI 4)]) (rest := []) E.1 (c_X7_person l g N ct_308 σ k hs u1 s1 u2 s2 t len (by omega) hO (nI i) (nI 4)) (lk_RL_49 E.1.2.2.2.2 ⟨Nat.le_of_ble_eq_true rfl, Nat.le_of_ble_eq_true rfl⟩) (fpreV E hP hS fc7 h7 (by omega)) rfl rfl hl.1 rfl (lv_room (Nat.le_of_ble_eq_true rfl)) dL_same_599 ⟨Nat.zero_le _, Nat.zero_le _⟩) hS (fun r_599 locs p_599 hS => ?_)
            refine fs_vi (y := (nI (cN (fun i9 => decide (rk σ i9 0 = i) && hdr σ (lkf σ) i9) (nT σ)))) (p_599.trans (ps_a hil hn6)) ?_
            refine lv_iload hx hb dL_same_602 (lv_at hl 20 rfl) ?_
            refine lv_icmp_ne (tgt := 630) hx hb dL_same_604 (by decide) (fun c_604 => ?_) (fun c_604 => ?_)
            · exact absurd rfl c_604
            refine lv_aload_n hx hb dL_same_607 rfl (lv_at hl 1 rfl) ?_
            refine lv_iload hx hb dL_same_608 (lv_at hl 17 rfl) ?_
            refine lv_iconst (v := (nI 5)) hx hb dL_same_610 (by decide) ?_
            refine fs_pi (va_runV (As := [.int (nI i), .int (nI 5)]) (rest := []) E.1 (c_X7_person l g N ct_308 σ k hs u1 s1 u2 s2 t len (by omega) hO (nI i) (nI 5)) (lk_RL_49 E.1.2.2.2.2 ⟨Nat.le_of_ble_eq_true rfl, Nat.le_of_ble_eq_true rfl⟩) (fpreV E hP hS fc7 h7 (by omega)) rfl rfl hl.1 rfl (lv_room (Nat.le_of_ble_eq_true rfl)) dL_same_611 ⟨Nat.zero_le _, Nat.zero_le _⟩) hS (fun r_611 locs p_611 hS => ?_)
            refine fs_vi (y := (nI (cN (fun q => decide (lkf σ q = i)) (nB σ)))) (p_611.trans (ps_a hil hn6)) ?_
            refine lv_iload hx hb dL_same_614 (lv_at hl 18 rfl) ?_
            refine lv_icmp_ne (tgt := 630) hx hb dL_same_616 (by decide) (fun c_616 => ?_) (fun c_616 => ?_)
            · exact absurd rfl c_616
            refine lv_aload_n hx hb dL_same_619 rfl (lv_at hl 1 rfl) ?_
            refine lv_iload hx hb dL_same_620 (lv_at hl 17 rfl) ?_
            refine fs_i (va_runV (As := [.int (nI i)]) (rest := []) E.1 (c_X7_certain l g N ct_308 σ k hs u1 s1 u2 s2 t len (by omega) hO (nI i)) (lk_RL_52 E.1.2.2.2.2 ⟨Nat.le_of_ble_eq_true rfl, Nat.le_of_ble_eq_true rfl⟩) (fpreV E hP hS fc7 h7 (by omega)) rfl rfl hl.1 rfl (lv_room (Nat.le_of_ble_eq_true rfl)) dL_same_622 ⟨Nat.zero_le _, Nat.zero_le _⟩) hS (fun r_622 ct_309 H locs p_622 hP hS => ?_)
            have h_310 : ct_309 239 = .inl (fcI g, 6, .inl fl) := ((p_622.2.2 239 (by omega))).trans h39
            have h_311 : ct_309 240 = .inl (fcI g, 6, .inl fsc) := ((p_622.2.2 240 (by omega))).trans h40
            have h_312 : ct_309 241 = .inl (fcI g, 6, .inl fgu) := ((p_622.2.2 241 (by omega))).trans h41
            have h_313 : ct_309 242 = .inl (fcI g, 60, .inl fr) := ((p_622.2.2 242 (by omega))).trans h42
            have h_314 : ct_309 243 = .inl (fcI g, 3, .inl fq) := ((p_622.2.2 243 (by omega))).trans h43
            have h_315 : ct_309 244 = .inl (fcI g, 6, .inl fw) := ((p_622.2.2 244 (by omega))).trans h44
            have h_316 : ct_309 245 = .inl (fcI g, 51, .inl fC) := ((p_622.2.2 245 (by omega))).trans h45
            have hO_317 : OGAt g ct_309 σ k hs u1 s1 u2 s2 t len := p_622.2.1
            obtain ⟨f7_318, h7_319⟩ := hO_317.obj
            refine fs_vi (y := (fnd (crt σ i) (nB σ))) (p_622.1.trans (ce_a hil hn6)) ?_
            refine lv_iload hx hb dL_same_625 (lv_at hl 21 rfl) ?_
            refine lv_icmp_eq (tgt := 632) hx hb dL_same_627 (by decide) (fun c_627 => ?_) (fun c_627 => ?_)
            rotate_left
            · exact absurd rfl c_627
            refine lv_iinc (v := (nI (i + 1))) (lv' := [(17, .int (nI (i + 1))), (12, .int (nI (cN (ceF σ) (i + 1)))), (0, .ref (fa g 0)), (1, .int x), (2, .ref (fa g 243)), (3, .ref (fa g 239)), (4, .ref (fa g 240)), (5, .ref (fa g 241)), (6, .ref (fa g 242)), (7, .ref (fa g 244)), (8, .ref (fa g 245)), (9, .int (nI (cN (opn σ) (nT σ)))), (10, .int (nI (cN (srF σ) (nT σ)))), (11, .int (nI (cN (nvF σ) (nT σ)))), (13, .int sh), (14, .int le), (15, .int bl), (16, .int mo), (18, .int (nI (cN (fun q => decide (lkf σ q = i)) (nB σ)))), (19, .int (nI (cN (fun i9 => decide (rk σ i9 0 = i)) (nT σ)))), (20, .int (nI (cN (fun i9 => decide (rk σ i9 0 = i) && hdr σ (lkf σ) i9) (nT σ)))), (21, .int (fnd (crt σ i) (nB σ))), (22, .int (nI (nT σ)))]) hx hb dL_same_632 hl (k := 17) rfl (nI_1 _) (by decide) rfl (fun ls hl => ?_)
            refine lv_goto (tgt := 326) hx hb dL_same_635 (by decide) ?_
            exact ih3 (i + 1) _ _ ls _ (by (try dsimp only); omega) ⟨lv_sub hl [2, 3, 4, 5, 6, 7, 8, 9, 10, 11, 12, 13, 1, 14, 15, 16, 17, 0] rfl, by omega, hO_317, ⟨h_310, h_311, h_312, h_313, h_314⟩, ⟨_, h_315⟩, h_316⟩ hP hS
          refine lv_iload hx hb dL_same_520 (lv_at hl 12 rfl) ?_
          refine lv_iload hx hb dL_same_522 (lv_at hl 21 rfl) ?_
          refine lv_if_ge (tgt := 531) hx hb dL_same_524 (by decide) (fun c_524 => ?_) (fun c_524 => ?_)
          · refine lv_iconst (v := (nI 1)) hx hb dL_same_531 (by decide) ?_
            refine lv_iadd hx hb dL_same_532 ?_
            refine fs_vi (y := (nI (cN (ceF σ) (i + 1)))) (by rw [cN_t (decide_eq_true (cr_ge c_524))]; exact nI_add _ _) ?_
            exact K_533 _ hS
          · refine lv_iconst (v := (nI 0)) hx hb dL_same_527 (by decide) ?_
            refine lv_goto (tgt := 532) hx hb dL_same_528 (by decide) ?_
            refine lv_iadd hx hb dL_same_532 ?_
            refine fs_vi (y := (nI (cN (ceF σ) (i + 1)))) (by rw [cN_f (decide_eq_false (fun y => y (cr_lt hG c_524)))]; exact nI_add _ 0) ?_
            exact K_533 _ hS
        · rw [nI_leI (by omega) (by omega)] at c_453
          have hrl : rr < nT σ := by omega
          have hte := (hG.r hrl).2.1
          refine fs_cutS (g := g) (F0 m 476 ls [.int (nI (cN (fun i9 => decide (rk σ i9 0 = i)) (rr + 1)))]) (fun locs hS => ?_) (fun K_476 => ?_)
          · skip
            refine lv_istore (lv' := [(19, .int (nI (cN (fun i9 => decide (rk σ i9 0 = i)) (rr + 1)))), (0, .ref (fa g 0)), (1, .int x), (2, .ref (fa g 243)), (3, .ref (fa g 239)), (4, .ref (fa g 240)), (5, .ref (fa g 241)), (6, .ref (fa g 242)), (7, .ref (fa g 244)), (8, .ref (fa g 245)), (9, .int (nI (cN (opn σ) (nT σ)))), (10, .int (nI (cN (srF σ) (nT σ)))), (11, .int (nI (cN (nvF σ) (nT σ)))), (12, .int (nI (cN (ceF σ) i))), (13, .int sh), (14, .int le), (15, .int bl), (16, .int mo), (17, .int (nI i)), (18, .int (nI (cN (fun q => decide (lkf σ q = i)) (nB σ)))), (20, .int (nI (cN (fun i9 => decide (rk σ i9 0 = i) && hdr σ (lkf σ) i9) rr))), (21, .int (fnd (crt σ i) (nB σ))), (22, .int (nI rr))]) hx hb dL_same_476 hl (by decide) rfl (fun ls hl => ?_)
            refine fs_cutS (g := g) (F0 m 512 ls [.int (nI (cN (fun i9 => decide (rk σ i9 0 = i) && hdr σ (lkf σ) i9) (rr + 1)))]) (fun locs hS => ?_) (fun K_512 => ?_)
            · skip
              refine lv_istore (lv' := [(20, .int (nI (cN (fun i9 => decide (rk σ i9 0 = i) && hdr σ (lkf σ) i9) (rr + 1)))), (19, .int (nI (cN (fun i9 => decide (rk σ i9 0 = i)) (rr + 1)))), (0, .ref (fa g 0)), (1, .int x), (2, .ref (fa g 243)), (3, .ref (fa g 239)), (4, .ref (fa g 240)), (5, .ref (fa g 241)), (6, .ref (fa g 242)), (7, .ref (fa g 244)), (8, .ref (fa g 245)), (9, .int (nI (cN (opn σ) (nT σ)))), (10, .int (nI (cN (srF σ) (nT σ)))), (11, .int (nI (cN (nvF σ) (nT σ)))), (12, .int (nI (cN (ceF σ) i))), (13, .int sh), (14, .int le), (15, .int bl), (16, .int mo), (17, .int (nI i)), (18, .int (nI (cN (fun q => decide (lkf σ q = i)) (nB σ)))), (21, .int (fnd (crt σ i) (nB σ))), (22, .int (nI rr))]) hx hb dL_same_512 hl (by decide) rfl (fun ls hl => ?_)
              refine lv_iinc (v := (nI (rr + 1))) (lv' := [(22, .int (nI (rr + 1))), (20, .int (nI (cN (fun i9 => decide (rk σ i9 0 = i) && hdr σ (lkf σ) i9) (rr + 1)))), (19, .int (nI (cN (fun i9 => decide (rk σ i9 0 = i)) (rr + 1)))), (0, .ref (fa g 0)), (1, .int x), (2, .ref (fa g 243)), (3, .ref (fa g 239)), (4, .ref (fa g 240)), (5, .ref (fa g 241)), (6, .ref (fa g 242)), (7, .ref (fa g 244)), (8, .ref (fa g 245)), (9, .int (nI (cN (opn σ) (nT σ)))), (10, .int (nI (cN (srF σ) (nT σ)))), (11, .int (nI (cN (nvF σ) (nT σ)))), (12, .int (nI (cN (ceF σ) i))), (13, .int sh), (14, .int le), (15, .int bl), (16, .int mo), (17, .int (nI i)), (18, .int (nI (cN (fun q => decide (lkf σ q = i)) (nB σ)))), (21, .int (fnd (crt σ i) (nB σ)))]) hx hb dL_same_514 hl (k := 22) rfl (nI_1 _) (by decide) rfl (fun ls hl => ?_)
              refine lv_goto (tgt := 448) hx hb dL_same_517 (by decide) ?_
              exact ih5 (rr + 1) ls _ (by (try dsimp only); omega) ⟨lv_sub hl [3, 4, 5, 6, 7, 8, 9, 10, 11, 12, 13, 14, 15, 16, 17, 18, 19, 20, 21, 2, 1, 22, 0] rfl, by omega⟩ hS
            refine lv_iload hx hb dL_same_478 (lv_at hl 20 rfl) ?_
            refine lv_aload hx hb dL_same_480 (lv_at hl 7 rfl) ?_
            refine lv_iconst (v := (nI 5)) hx hb dL_same_482 (by decide) ?_
            refine lv_iload hx hb dL_same_483 (lv_at hl 22 rfl) ?_
            refine lv_imul hx hb dL_same_485 ?_
            refine fs_vi (y := nI (5 * rr)) (pk_mul _ _) ?_
            refine fs_iald E hP (k := 242) h42 (by omega) (vp_in_nI (by omega) (by omega)) dL_same_486 ?_
            refine fs_vi (y := fr (5 * rr)) (congrArg fr (nI_clamp (by omega))) ?_
            refine fs_vi (y := (nI (rk σ rr 0))) (hR rr 0 (by omega) (by omega)) ?_
            refine lv_iload hx hb dL_same_487 (lv_at hl 18 rfl) ?_
            refine lv_icmp_ne (tgt := 510) hx hb dL_same_489 (by decide) (fun c_489 => ?_) (fun c_489 => ?_)
            · rw [nI_eq (by omega) (by omega)] at c_489
              refine lv_iconst (v := (nI 0)) hx hb dL_same_510 (by decide) ?_
              refine lv_iadd hx hb dL_same_511 ?_
              refine fs_vi (y := (nI (cN (fun i9 => decide (rk σ i9 0 = i) && hdr σ (lkf σ) i9) (rr + 1)))) (by rw [cN_f (by rw [decide_eq_false c_489]; rfl)]; exact nI_add _ 0) ?_
              exact K_512 _ hS
            · rw [nI_eq (by omega) (by omega)] at c_489
              refine lv_iload hx hb dL_same_492 (lv_at hl 22 rfl) ?_
              refine lv_aload hx hb dL_same_494 (lv_at hl 7 rfl) ?_
              refine lv_aload_n hx hb dL_same_496 rfl (lv_at hl 4 rfl) ?_
              refine lv_aload_n hx hb dL_same_497 rfl (lv_at hl 3 rfl) ?_
              refine lv_iconst (v := (nI 0)) hx hb dL_same_498 (by decide) ?_
              refine fs_iald E hP (k := 243) h43 (by omega) (vp_in_nI (by omega) (by omega)) dL_same_499 ?_
              refine fs_vi (y := fq 0) (congrArg fq (nI_clamp (by omega))) ?_
              refine fs_vi (y := (nI (nB σ))) hQ.1 ?_
              refine fs_pi (va_runS (As := [.int (nI rr), .ref (fa g 242), .ref (fa g 239), .int (nI (nB σ))]) (rest := [.int (nI (cN (fun i9 => decide (rk σ i9 0 = i) && hdr σ (lkf σ) i9) rr))]) E.1 (c_L_of l g N ct_308 σ (by omega) hG h12 fr h42 hR 239 fl (lkf σ) (by omega) hL hG.wok h39 rr (by omega)) (lk_RL_16 E.1.2.2.2.2 ⟨Nat.le_of_ble_eq_true rfl, Nat.le_of_ble_eq_true rfl⟩) (fpreS E hP hS) rfl rfl hl.1 rfl (lv_room (Nat.le_of_ble_eq_true rfl)) dL_same_500 ⟨Nat.zero_le _, Nat.zero_le _⟩) hS (fun r_500 locs p_500 hS => ?_)
              refine lv_if_eq (tgt := 510) hx hb dL_same_503 (by decide) (fun c_503 => ?_) (fun c_503 => ?_)
              · have c_503 := (fb_0 p_500).mp c_503
                refine lv_iconst (v := (nI 0)) hx hb dL_same_510 (by decide) ?_
                refine lv_iadd hx hb dL_same_511 ?_
                refine fs_vi (y := (nI (cN (fun i9 => decide (rk σ i9 0 = i) && hdr σ (lkf σ) i9) (rr + 1)))) (by rw [cN_f (by rw [decide_eq_true c_489, Bool.eq_false_iff.mpr c_503]; rfl)]; exact nI_add _ 0) ?_
                exact K_512 _ hS
              · have c_503 := (fb_1 p_500).mp c_503
                refine lv_iconst (v := (nI 1)) hx hb dL_same_506 (by decide) ?_
                refine lv_goto (tgt := 511) hx hb dL_same_507 (by decide) ?_
                refine lv_iadd hx hb dL_same_511 ?_
                refine fs_vi (y := (nI (cN (fun i9 => decide (rk σ i9 0 = i) && hdr σ (lkf σ) i9) (rr + 1)))) (by rw [cN_t (by rw [decide_eq_true c_489, c_503]; rfl)]; exact nI_add _ _) ?_
                exact K_512 _ hS
          refine lv_iload hx hb dL_same_456 (lv_at hl 19 rfl) ?_
          refine lv_aload hx hb dL_same_458 (lv_at hl 6 rfl) ?_
          refine lv_iconst (v := (nI 5)) hx hb dL_same_460 (by decide) ?_
          refine lv_iload hx hb dL_same_461 (lv_at hl 22 rfl) ?_
          refine lv_imul hx hb dL_same_463 ?_
          refine fs_vi (y := nI (5 * rr)) (pk_mul _ _) ?_
          refine fs_iald E hP (k := 242) h42 (by omega) (vp_in_nI (by omega) (by omega)) dL_same_464 ?_
          refine fs_vi (y := fr (5 * rr)) (congrArg fr (nI_clamp (by omega))) ?_
          refine fs_vi (y := (nI (rk σ rr 0))) (hR rr 0 (by omega) (by omega)) ?_
          refine lv_iload hx hb dL_same_465 (lv_at hl 17 rfl) ?_
          refine lv_icmp_ne (tgt := 474) hx hb dL_same_467 (by decide) (fun c_467 => ?_) (fun c_467 => ?_)
          · rw [nI_eq (by omega) (by omega)] at c_467
            refine lv_iconst (v := (nI 0)) hx hb dL_same_474 (by decide) ?_
            refine lv_iadd hx hb dL_same_475 ?_
            refine fs_vi (y := (nI (cN (fun i9 => decide (rk σ i9 0 = i)) (rr + 1)))) (by rw [cN_f (decide_eq_false c_467)]; exact nI_add _ 0) ?_
            exact K_476 _ hS
          · rw [nI_eq (by omega) (by omega)] at c_467
            refine lv_iconst (v := (nI 1)) hx hb dL_same_470 (by decide) ?_
            refine lv_goto (tgt := 475) hx hb dL_same_471 (by decide) ?_
            refine lv_iadd hx hb dL_same_475 ?_
            refine fs_vi (y := (nI (cN (fun i9 => decide (rk σ i9 0 = i)) (rr + 1)))) (by rw [cN_t (decide_eq_true c_467)]; exact nI_add _ _) ?_
            exact K_476 _ hS
      · rw [nI_leI (by omega) (by omega)] at c_355
        have hkl : kk < nB σ := by omega
        have hlk := (hG.2.2.1 kk hkl).2.1
        have hLl := LK_le hG i kk
        refine fs_cutS (g := g) (F0 m 375 ls [.int (nI (cN (fun q => decide (lkf σ q = i)) (kk + 1)))]) (fun locs hS => ?_) (fun K_375 => ?_)
        · skip
          refine lv_istore (lv' := [(18, .int (nI (cN (fun q => decide (lkf σ q = i)) (kk + 1)))), (0, .ref (fa g 0)), (1, .int x), (2, .ref (fa g 243)), (3, .ref (fa g 239)), (4, .ref (fa g 240)), (5, .ref (fa g 241)), (6, .ref (fa g 242)), (7, .ref (fa g 244)), (8, .ref (fa g 245)), (9, .int (nI (cN (opn σ) (nT σ)))), (10, .int (nI (cN (srF σ) (nT σ)))), (11, .int (nI (cN (nvF σ) (nT σ)))), (12, .int (nI (cN (ceF σ) i))), (13, .int sh), (14, .int le), (15, .int bl), (16, .int mo), (17, .int (nI i)), (19, .int (nI 0)), (20, .int (nI 0)), (21, .int (fnd (crt σ i) kk)), (22, .int (nI kk))]) hx hb dL_same_375 hl (by decide) rfl (fun ls hl => ?_)
          refine fs_cutS (g := g) (F0 m 411 ls [.int (fnd (crt σ i) (kk + 1))]) (fun locs hS => ?_) (fun K_411 => ?_)
          · skip
            refine lv_istore (lv' := [(21, .int (fnd (crt σ i) (kk + 1))), (18, .int (nI (cN (fun q => decide (lkf σ q = i)) (kk + 1)))), (0, .ref (fa g 0)), (1, .int x), (2, .ref (fa g 243)), (3, .ref (fa g 239)), (4, .ref (fa g 240)), (5, .ref (fa g 241)), (6, .ref (fa g 242)), (7, .ref (fa g 244)), (8, .ref (fa g 245)), (9, .int (nI (cN (opn σ) (nT σ)))), (10, .int (nI (cN (srF σ) (nT σ)))), (11, .int (nI (cN (nvF σ) (nT σ)))), (12, .int (nI (cN (ceF σ) i))), (13, .int sh), (14, .int le), (15, .int bl), (16, .int mo), (17, .int (nI i)), (19, .int (nI 0)), (20, .int (nI 0)), (22, .int (nI kk))]) hx hb dL_same_411 hl (by decide) rfl (fun ls hl => ?_)
            refine lv_aload_n hx hb dL_same_413 rfl (lv_at hl 2 rfl) ?_
            refine lv_iload hx hb dL_same_414 (lv_at hl 19 rfl) ?_
            refine lv_iload hx hb dL_same_416 (lv_at hl 22 rfl) ?_
            refine fs_i (va_runV (As := [.int (nI i), .int (nI kk)]) (rest := []) E.1 (c_X7_possible l g N ct_308 σ k hs u1 s1 u2 s2 t len (by omega) hO (nI i) (nI kk)) (lk_RL_46 E.1.2.2.2.2 ⟨Nat.le_of_ble_eq_true rfl, Nat.le_of_ble_eq_true rfl⟩) (fpreV E hP hS fc7 h7 (by omega)) rfl rfl hl.1 rfl (lv_room (Nat.le_of_ble_eq_true rfl)) dL_same_418 ⟨Nat.zero_le _, Nat.zero_le _⟩) hS (fun r_418 ct_320 H locs p_418 hP hS => ?_)
            have h_321 : ct_320 239 = .inl (fcI g, 6, .inl fl) := ((p_418.2.2 239 (by omega))).trans h39
            have h_322 : ct_320 240 = .inl (fcI g, 6, .inl fsc) := ((p_418.2.2 240 (by omega))).trans h40
            have h_323 : ct_320 241 = .inl (fcI g, 6, .inl fgu) := ((p_418.2.2 241 (by omega))).trans h41
            have h_324 : ct_320 242 = .inl (fcI g, 60, .inl fr) := ((p_418.2.2 242 (by omega))).trans h42
            have h_325 : ct_320 243 = .inl (fcI g, 3, .inl fq) := ((p_418.2.2 243 (by omega))).trans h43
            have h_326 : ct_320 244 = .inl (fcI g, 6, .inl fw) := ((p_418.2.2 244 (by omega))).trans h44
            have h_327 : ct_320 245 = .inl (fcI g, 51, .inl fC) := ((p_418.2.2 245 (by omega))).trans h45
            have hO_328 : OGAt g ct_320 σ k hs u1 s1 u2 s2 t len := p_418.2.1
            obtain ⟨f7_329, h7_330⟩ := hO_328.obj
            refine fs_vi (y := (nI (LKn σ i kk))) (p_418.1.trans (po_a hil hkl hn6)) ?_
            refine lv_aload hx hb dL_same_421 (lv_at hl 10 rfl) ?_
            refine lv_iconst (v := (nI 1)) hx hb dL_same_423 (by decide) ?_
            refine lv_bipush (v := (nI 6)) hx hb dL_same_424 (by decide) ?_
            refine lv_iload hx hb dL_same_426 (lv_at hl 19 rfl) ?_
            refine lv_imul hx hb dL_same_428 ?_
            refine fs_vi (y := nI (6 * i)) (pk_mul _ _) ?_
            refine lv_iadd hx hb dL_same_429 ?_
            refine fs_vi (y := nI (1 + 6 * i)) (nI_add _ _) ?_
            refine lv_iload hx hb dL_same_430 (lv_at hl 22 rfl) ?_
            refine lv_iadd hx hb dL_same_432 ?_
            refine fs_vi (y := nI (1 + 6 * i + kk)) (nI_add _ _) ?_
            refine fs_iald E hP (k := 245) h_327 (by omega) (vp_in_nI (by omega) (by omega)) dL_same_433 ?_
            refine fs_vi (y := fC (1 + 6 * i + kk)) (congrArg fC (nI_clamp (by omega))) ?_
            refine fs_vi (y := (nI (LKn σ i kk))) (hCO.2.1 i kk (by omega) (by omega)) ?_
            refine lv_icmp_eq (tgt := 439) hx hb dL_same_434 (by decide) (fun c_434 => ?_) (fun c_434 => ?_)
            rotate_left
            · exact absurd rfl c_434
            refine lv_iinc (v := (nI (kk + 1))) (lv' := [(22, .int (nI (kk + 1))), (21, .int (fnd (crt σ i) (kk + 1))), (18, .int (nI (cN (fun q => decide (lkf σ q = i)) (kk + 1)))), (0, .ref (fa g 0)), (1, .int x), (2, .ref (fa g 243)), (3, .ref (fa g 239)), (4, .ref (fa g 240)), (5, .ref (fa g 241)), (6, .ref (fa g 242)), (7, .ref (fa g 244)), (8, .ref (fa g 245)), (9, .int (nI (cN (opn σ) (nT σ)))), (10, .int (nI (cN (srF σ) (nT σ)))), (11, .int (nI (cN (nvF σ) (nT σ)))), (12, .int (nI (cN (ceF σ) i))), (13, .int sh), (14, .int le), (15, .int bl), (16, .int mo), (17, .int (nI i)), (19, .int (nI 0)), (20, .int (nI 0))]) hx hb dL_same_439 hl (k := 22) rfl (nI_1 _) (by decide) rfl (fun ls hl => ?_)
            refine lv_goto (tgt := 350) hx hb dL_same_442 (by decide) ?_
            exact ih4 (kk + 1) _ _ ls _ (by (try dsimp only); omega) ⟨lv_sub hl [3, 4, 5, 6, 7, 8, 9, 10, 11, 12, 13, 14, 15, 16, 17, 18, 19, 20, 2, 21, 22, 1, 0] rfl, by omega, hO_328, ⟨h_321, h_322, h_323, h_324, h_325⟩, ⟨_, h_326⟩, h_327⟩ hP hS
          refine lv_aload hx hb dL_same_377 (lv_at hl 9 rfl) ?_
          refine lv_iconst (v := (nI 0)) hx hb dL_same_379 (by decide) ?_
          refine fs_iald E hP (k := 245) h45 (by omega) (vp_in_nI (by omega) (by omega)) dL_same_380 ?_
          refine fs_vi (y := fC 0) (congrArg fC (nI_clamp (by omega))) ?_
          refine fs_vi (y := (nI (Wn σ))) hCO.1 ?_
          refine lv_if_le (tgt := 409) hx hb dL_same_381 (by decide) (fun c_381 => ?_) (fun c_381 => ?_)
          · rw [fz_leN (by omega)] at c_381
            refine lv_iload hx hb dL_same_409 (lv_at hl 21 rfl) ?_
            refine fs_vi (y := (fnd (crt σ i) (kk + 1))) (fnd_f (decide_eq_false (fun y => by have := y.1; omega))) ?_
            exact K_411 _ hS
          · rw [fz_leN (by omega)] at c_381
            refine lv_aload hx hb dL_same_384 (lv_at hl 9 rfl) ?_
            refine lv_iconst (v := (nI 1)) hx hb dL_same_386 (by decide) ?_
            refine lv_bipush (v := (nI 6)) hx hb dL_same_387 (by decide) ?_
            refine lv_iload hx hb dL_same_389 (lv_at hl 18 rfl) ?_
            refine lv_imul hx hb dL_same_391 ?_
            refine fs_vi (y := nI (6 * i)) (pk_mul _ _) ?_
            refine lv_iadd hx hb dL_same_392 ?_
            refine fs_vi (y := nI (1 + 6 * i)) (nI_add _ _) ?_
            refine lv_iload hx hb dL_same_393 (lv_at hl 22 rfl) ?_
            refine lv_iadd hx hb dL_same_395 ?_
            refine fs_vi (y := nI (1 + 6 * i + kk)) (nI_add _ _) ?_
            refine fs_iald E hP (k := 245) h45 (by omega) (vp_in_nI (by omega) (by omega)) dL_same_396 ?_
            refine fs_vi (y := fC (1 + 6 * i + kk)) (congrArg fC (nI_clamp (by omega))) ?_
            refine fs_vi (y := (nI (LKn σ i kk))) (hCO.2.1 i kk (by omega) (by omega)) ?_
            refine lv_aload hx hb dL_same_397 (lv_at hl 9 rfl) ?_
            refine lv_iconst (v := (nI 0)) hx hb dL_same_399 (by decide) ?_
            refine fs_iald E hP (k := 245) h45 (by omega) (vp_in_nI (by omega) (by omega)) dL_same_400 ?_
            refine fs_vi (y := fC 0) (congrArg fC (nI_clamp (by omega))) ?_
            refine fs_vi (y := (nI (Wn σ))) hCO.1 ?_
            refine lv_icmp_ne (tgt := 409) hx hb dL_same_401 (by decide) (fun c_401 => ?_) (fun c_401 => ?_)
            · rw [nI_eq (by omega) (by omega)] at c_401
              refine lv_iload hx hb dL_same_409 (lv_at hl 21 rfl) ?_
              refine fs_vi (y := (fnd (crt σ i) (kk + 1))) (fnd_f (decide_eq_false (fun y => c_401 y.2))) ?_
              exact K_411 _ hS
            · rw [nI_eq (by omega) (by omega)] at c_401
              refine lv_iload hx hb dL_same_404 (lv_at hl 22 rfl) ?_
              refine lv_goto (tgt := 411) hx hb dL_same_406 (by decide) ?_
              refine fs_vi (y := (fnd (crt σ i) (kk + 1))) (fnd_t (decide_eq_true ⟨by omega, c_401⟩)) ?_
              exact K_411 _ hS
        refine lv_iload hx hb dL_same_358 (lv_at hl 18 rfl) ?_
        refine lv_aload_n hx hb dL_same_360 rfl (lv_at hl 3 rfl) ?_
        refine lv_iload hx hb dL_same_361 (lv_at hl 22 rfl) ?_
        refine fs_iald E hP (k := 239) h39 (by omega) (vp_in_nI (by omega) (by omega)) dL_same_363 ?_
        refine fs_vi (y := fl kk) (congrArg fl (nI_clamp (by omega))) ?_
        refine fs_vi (y := (nI (lkf σ kk))) (hL _ (by omega)) ?_
        refine lv_iload hx hb dL_same_364 (lv_at hl 17 rfl) ?_
        refine lv_icmp_ne (tgt := 373) hx hb dL_same_366 (by decide) (fun c_366 => ?_) (fun c_366 => ?_)
        · rw [nI_eq (by omega) (by omega)] at c_366
          refine lv_iconst (v := (nI 0)) hx hb dL_same_373 (by decide) ?_
          refine lv_iadd hx hb dL_same_374 ?_
          refine fs_vi (y := (nI (cN (fun q => decide (lkf σ q = i)) (kk + 1)))) (by rw [cN_f (decide_eq_false c_366)]; exact nI_add _ 0) ?_
          exact K_375 _ hS
        · rw [nI_eq (by omega) (by omega)] at c_366
          refine lv_iconst (v := (nI 1)) hx hb dL_same_369 (by decide) ?_
          refine lv_goto (tgt := 374) hx hb dL_same_370 (by decide) ?_
          refine lv_iadd hx hb dL_same_374 ?_
          refine fs_vi (y := (nI (cN (fun q => decide (lkf σ q = i)) (kk + 1)))) (by rw [cN_t (decide_eq_true c_366)]; exact nI_add _ _) ?_
          exact K_375 _ hS
  · rw [nI_leI (by omega) (by omega)] at c_44
    refine lv_iconst (v := (nI 5)) hx hb dL_same_47 (by decide) ?_
    refine lv_iload hx hb dL_same_48 (lv_at hl 17 rfl) ?_
    refine lv_imul hx hb dL_same_50 ?_
    refine fs_vi (y := nI (5 * r0)) (pk_mul _ _) ?_
    refine lv_istore (lv' := [(18, .int (nI (5 * r0))), (0, .ref (fa g 0)), (1, .int x), (2, .ref (fa g 243)), (3, .ref (fa g 239)), (4, .ref (fa g 240)), (5, .ref (fa g 241)), (6, .ref (fa g 242)), (7, .ref (fa g 244)), (8, .ref (fa g 245)), (9, .int (nI (cN (opn σ) r0))), (10, .int (nI (cN (srF σ) r0))), (11, .int (nI (cN (nvF σ) r0))), (12, .int (nI 0)), (13, .int sh), (14, .int le), (15, .int bl), (16, .int mo), (17, .int (nI r0))]) hx hb dL_same_51 hl (by decide) rfl (fun ls hl => ?_)
    have hrl : r0 < nT σ := by omega
    have hHl := HD_le2 hG r0
    have hHw := HD_le σ r0
    have hst := (hG.how4 hrl).2
    refine lv_iconst (v := (nI 0)) hx hb dL_same_53 (by decide) ?_
    refine lv_istore (lv' := [(19, .int (nI 0)), (18, .int (nI (5 * r0))), (0, .ref (fa g 0)), (1, .int x), (2, .ref (fa g 243)), (3, .ref (fa g 239)), (4, .ref (fa g 240)), (5, .ref (fa g 241)), (6, .ref (fa g 242)), (7, .ref (fa g 244)), (8, .ref (fa g 245)), (9, .int (nI (cN (opn σ) r0))), (10, .int (nI (cN (srF σ) r0))), (11, .int (nI (cN (nvF σ) r0))), (12, .int (nI 0)), (13, .int sh), (14, .int le), (15, .int bl), (16, .int mo), (17, .int (nI r0))]) hx hb dL_same_54 hl (by decide) rfl (fun ls hl => ?_)
    refine fs_ind (g := g) (N := N) (St := Nat) (fun (wq : Nat) (ct_331 : Nat → va_E) (ls : Array Slot) => lv_has ls 25 [(0, .ref (fa g 0)), (1, .int x), (2, .ref (fa g 243)), (3, .ref (fa g 239)), (4, .ref (fa g 240)), (5, .ref (fa g 241)), (6, .ref (fa g 242)), (7, .ref (fa g 244)), (8, .ref (fa g 245)), (9, .int (nI (cN (opn σ) r0))), (10, .int (nI (cN (srF σ) r0))), (11, .int (nI (cN (nvF σ) r0))), (12, .int (nI 0)), (13, .int sh), (14, .int le), (15, .int bl), (16, .int mo), (17, .int (nI r0)), (18, .int (nI (5 * r0))), (19, .int (nI wq))] ∧ wq ≤ 5 ∧ OGAt g ct_331 σ k hs u1 s1 u2 s2 t len ∧ RWS g ct_331 fl fsc fgu fr fq ∧ (∃ fw : Nat → Int32, ct_331 244 = .inl (fcI g, 6, .inl fw)) ∧ ct_331 245 = .inl (fcI g, 51, .inl fC)) (fun (wq : Nat) => 5 - wq) ?_ 0 _ _ ls _ ⟨lv_sub hl [2, 3, 4, 5, 6, 7, 8, 9, 10, 11, 12, 13, 14, 15, 16, 17, 18, 19, 1, 0] rfl, Nat.zero_le _, hO, ⟨h39, h40, h41, h42, h43⟩, ⟨_, h44⟩, h45⟩ hP hS
    clear hl hP hS
    intro st ct_331 H ls locs hI hP hS ih2
    obtain ⟨wq, rfl⟩ : ∃ z, z = st := ⟨_, rfl⟩
    obtain ⟨hl, hI⟩ := hI
    obtain ⟨hwq, hO, ⟨h39, h40, h41, h42, h43⟩, ⟨fw, h44⟩, h45⟩ := hI
    obtain ⟨f7, h7⟩ := hO.obj
    refine lv_iload hx hb dL_same_56 (lv_at hl 19 rfl) ?_
    refine lv_iconst (v := (nI 5)) hx hb dL_same_58 (by decide) ?_
    refine lv_icmp_ge (tgt := 89) hx hb dL_same_59 (by decide) (fun c_59 => ?_) (fun c_59 => ?_)
    · rw [nI_leI (by omega) (by omega)] at c_59
      refine lv_aload_n hx hb dL_same_89 rfl (lv_at hl 0 rfl) ?_
      refine lv_iload hx hb dL_same_90 (lv_at hl 17 rfl) ?_
      refine lv_iconst (v := (nI 5)) hx hb dL_same_92 (by decide) ?_
      refine fs_i (va_runV (As := [.int (nI r0), .int (nI 5)]) (rest := []) E.1 (c_X7_rumour l g N ct_331 σ k hs u1 s1 u2 s2 t len (by omega) hO (nI r0) (nI 5)) (lk_RL_36 E.1.2.2.2.2 ⟨Nat.le_of_ble_eq_true rfl, Nat.le_of_ble_eq_true rfl⟩) (fpreV E hP hS fc7 h7 (by omega)) rfl rfl hl.1 rfl (lv_room (Nat.le_of_ble_eq_true rfl)) dL_same_93 ⟨Nat.zero_le _, Nat.zero_le _⟩) hS (fun r_93 ct_332 H locs p_93 hP hS => ?_)
      have h_333 : ct_332 239 = .inl (fcI g, 6, .inl fl) := ((p_93.2.2 239 (by omega))).trans h39
      have h_334 : ct_332 240 = .inl (fcI g, 6, .inl fsc) := ((p_93.2.2 240 (by omega))).trans h40
      have h_335 : ct_332 241 = .inl (fcI g, 6, .inl fgu) := ((p_93.2.2 241 (by omega))).trans h41
      have h_336 : ct_332 242 = .inl (fcI g, 60, .inl fr) := ((p_93.2.2 242 (by omega))).trans h42
      have h_337 : ct_332 243 = .inl (fcI g, 3, .inl fq) := ((p_93.2.2 243 (by omega))).trans h43
      have h_338 : ct_332 244 = .inl (fcI g, 6, .inl fw) := ((p_93.2.2 244 (by omega))).trans h44
      have h_339 : ct_332 245 = .inl (fcI g, 51, .inl fC) := ((p_93.2.2 245 (by omega))).trans h45
      have hO_340 : OGAt g ct_332 σ k hs u1 s1 u2 s2 t len := p_93.2.1
      obtain ⟨f7_341, h7_342⟩ := hO_340.obj
      refine fs_vi (y := (bI (hdr σ (lkf σ) r0 = true))) (p_93.1.trans (rm_a hrl hG.k)) ?_
      refine lv_iload hx hb dL_same_96 (lv_at hl 17 rfl) ?_
      refine lv_aload hx hb dL_same_98 (lv_at hl 6 rfl) ?_
      refine lv_aload_n hx hb dL_same_100 rfl (lv_at hl 3 rfl) ?_
      refine lv_aload_n hx hb dL_same_101 rfl (lv_at hl 2 rfl) ?_
      refine lv_iconst (v := (nI 0)) hx hb dL_same_102 (by decide) ?_
      refine fs_iald E hP (k := 243) h_337 (by omega) (vp_in_nI (by omega) (by omega)) dL_same_103 ?_
      refine fs_vi (y := fq 0) (congrArg fq (nI_clamp (by omega))) ?_
      refine fs_vi (y := (nI (nB σ))) hQ.1 ?_
      refine fs_pi (va_runS (As := [.int (nI r0), .ref (fa g 242), .ref (fa g 239), .int (nI (nB σ))]) (rest := [.int (bI (hdr σ (lkf σ) r0 = true))]) E.1 (c_L_of l g N ct_332 σ (by omega) hG h12 fr h_336 hR 239 fl (lkf σ) (by omega) hL hG.wok h_333 r0 (by omega)) (lk_RL_16 E.1.2.2.2.2 ⟨Nat.le_of_ble_eq_true rfl, Nat.le_of_ble_eq_true rfl⟩) (fpreS E hP hS) rfl rfl hl.1 rfl (lv_room (Nat.le_of_ble_eq_true rfl)) dL_same_104 ⟨Nat.zero_le _, Nat.zero_le _⟩) hS (fun r_104 locs p_104 hS => ?_)
      refine fs_cutS (g := g) (F0 m 115 ls [.int (bI (hdr σ (lkf σ) r0 = true)) , .int (bI (hdr σ (lkf σ) r0 = true))]) (fun locs hS => ?_) (fun K_115 => ?_)
      · skip
        refine lv_icmp_ne (tgt := 137) hx hb dL_same_115 (by decide) (fun c_115 => ?_) (fun c_115 => ?_)
        · exact absurd rfl c_115
        refine lv_aload_n hx hb dL_same_118 rfl (lv_at hl 0 rfl) ?_
        refine lv_iload hx hb dL_same_119 (lv_at hl 17 rfl) ?_
        refine lv_bipush (v := (nI 6)) hx hb dL_same_121 (by decide) ?_
        refine fs_i (va_runV (As := [.int (nI r0), .int (nI 6)]) (rest := []) E.1 (c_X7_rumour l g N ct_332 σ k hs u1 s1 u2 s2 t len (by omega) hO_340 (nI r0) (nI 6)) (lk_RL_36 E.1.2.2.2.2 ⟨Nat.le_of_ble_eq_true rfl, Nat.le_of_ble_eq_true rfl⟩) (fpreV E hP hS fc7 h7_342 (by omega)) rfl rfl hl.1 rfl (lv_room (Nat.le_of_ble_eq_true rfl)) dL_same_123 ⟨Nat.zero_le _, Nat.zero_le _⟩) hS (fun r_123 ct_343 H locs p_123 hP hS => ?_)
        have h_344 : ct_343 239 = .inl (fcI g, 6, .inl fl) := ((p_123.2.2 239 (by omega))).trans h_333
        have h_345 : ct_343 240 = .inl (fcI g, 6, .inl fsc) := ((p_123.2.2 240 (by omega))).trans h_334
        have h_346 : ct_343 241 = .inl (fcI g, 6, .inl fgu) := ((p_123.2.2 241 (by omega))).trans h_335
        have h_347 : ct_343 242 = .inl (fcI g, 60, .inl fr) := ((p_123.2.2 242 (by omega))).trans h_336
        have h_348 : ct_343 243 = .inl (fcI g, 3, .inl fq) := ((p_123.2.2 243 (by omega))).trans h_337
        have h_349 : ct_343 244 = .inl (fcI g, 6, .inl fw) := ((p_123.2.2 244 (by omega))).trans h_338
        have h_350 : ct_343 245 = .inl (fcI g, 51, .inl fC) := ((p_123.2.2 245 (by omega))).trans h_339
        have hO_351 : OGAt g ct_343 σ k hs u1 s1 u2 s2 t len := p_123.2.1
        obtain ⟨f7_352, h7_353⟩ := hO_351.obj
        refine fs_vi (y := (nI (HDn σ r0))) (p_123.1.trans (rm_a hrl hG.k)) ?_
        refine lv_aload hx hb dL_same_126 (lv_at hl 8 rfl) ?_
        refine lv_bipush (v := (nI 37)) hx hb dL_same_128 (by decide) ?_
        refine lv_iload hx hb dL_same_130 (lv_at hl 17 rfl) ?_
        refine lv_iadd hx hb dL_same_132 ?_
        refine fs_vi (y := nI (37 + r0)) (nI_add _ _) ?_
        refine fs_iald E hP (k := 245) h_350 (by omega) (vp_in_nI (by omega) (by omega)) dL_same_133 ?_
        refine fs_vi (y := fC (37 + r0)) (congrArg fC (nI_clamp (by omega))) ?_
        refine fs_vi (y := (nI (HDn σ r0))) (hCO.2.2.1 r0 (by omega)) ?_
        refine lv_icmp_eq (tgt := 139) hx hb dL_same_134 (by decide) (fun c_134 => ?_) (fun c_134 => ?_)
        rotate_left
        · exact absurd rfl c_134
        refine lv_aload hx hb dL_same_139 (lv_at hl 6 rfl) ?_
        refine lv_iload hx hb dL_same_141 (lv_at hl 18 rfl) ?_
        refine lv_iconst (v := (nI 4)) hx hb dL_same_143 (by decide) ?_
        refine lv_iadd hx hb dL_same_144 ?_
        refine fs_vi (y := nI (5 * r0 + 4)) (nI_add _ _) ?_
        refine fs_iald E hP (k := 242) h_347 (by omega) (vp_in_nI (by omega) (by omega)) dL_same_145 ?_
        refine fs_vi (y := fr (5 * r0 + 4)) (congrArg fr (nI_clamp (by omega))) ?_
        refine fs_vi (y := (nI (rk σ r0 4))) (hR r0 4 (by omega) (by omega)) ?_
        refine lv_if_ne (tgt := 278) hx hb dL_same_146 (by decide) (fun c_146 => ?_) (fun c_146 => ?_)
        · rw [fz_eqN (by omega)] at c_146
          have hop9 : opn σ r0 = false := decide_eq_false c_146
          refine lv_aload hx hb dL_same_278 (lv_at hl 8 rfl) ?_
          refine lv_iconst (v := (nI 0)) hx hb dL_same_280 (by decide) ?_
          refine fs_iald E hP (k := 245) h_350 (by omega) (vp_in_nI (by omega) (by omega)) dL_same_281 ?_
          refine fs_vi (y := fC 0) (congrArg fC (nI_clamp (by omega))) ?_
          refine fs_vi (y := (nI (Wn σ))) hCO.1 ?_
          refine lv_if_ne (tgt := 317) hx hb dL_same_282 (by decide) (fun c_282 => ?_) (fun c_282 => ?_)
          · rw [fz_eqN (by omega)] at c_282
            have e9 : (nI (cN (opn σ) r0)) = (nI (cN (opn σ) (r0 + 1))) := by rw [cN_f hop9]
            have e10 : (nI (cN (srF σ) r0)) = (nI (cN (srF σ) (r0 + 1))) := by rw [cN_f (show srF σ r0 = false by unfold srF; rw [hop9]; rfl)]
            have e11 : (nI (cN (nvF σ) r0)) = (nI (cN (nvF σ) (r0 + 1))) := by rw [cN_f (show nvF σ r0 = false by unfold nvF; rw [hop9]; rfl)]
            rw [e9, e10, e11] at hl
            refine lv_iinc (v := (nI (r0 + 1))) (lv' := [(17, .int (nI (r0 + 1))), (0, .ref (fa g 0)), (1, .int x), (2, .ref (fa g 243)), (3, .ref (fa g 239)), (4, .ref (fa g 240)), (5, .ref (fa g 241)), (6, .ref (fa g 242)), (7, .ref (fa g 244)), (8, .ref (fa g 245)), (9, .int (nI (cN (opn σ) (r0 + 1)))), (10, .int (nI (cN (srF σ) (r0 + 1)))), (11, .int (nI (cN (nvF σ) (r0 + 1)))), (12, .int (nI 0)), (13, .int sh), (14, .int le), (15, .int bl), (16, .int mo), (18, .int (nI (5 * r0))), (19, .int (nI wq))]) hx hb dL_same_317 hl (k := 17) rfl (nI_1 _) (by decide) rfl (fun ls hl => ?_)
            refine lv_goto (tgt := 39) hx hb dL_same_320 (by decide) ?_
            exact ih1 (r0 + 1, sh, le, bl, mo) _ _ ls _ (by (try dsimp only); omega) ⟨lv_sub hl [1, 2, 3, 4, 5, 6, 7, 8, 9, 10, 11, 12, 13, 14, 15, 16, 17, 0] rfl, by (try dsimp only); omega, SH_no hSH hop9, BL_w hBL c_282, hO_351, ⟨h_344, h_345, h_346, h_347, h_348⟩, ⟨_, h_349⟩, h_350⟩ hP hS
          · rw [fz_eqN (by omega)] at c_282
            refine lv_iload hx hb dL_same_285 (lv_at hl 17 rfl) ?_
            refine lv_aload_n hx hb dL_same_287 rfl (lv_at hl 2 rfl) ?_
            refine lv_aload hx hb dL_same_288 (lv_at hl 6 rfl) ?_
            refine lv_aload hx hb dL_same_290 (lv_at hl 7 rfl) ?_
            refine fs_i (va_runS (As := [.int (nI r0), .ref (fa g 243), .ref (fa g 242), .ref (fa g 244)]) (rest := []) E.1 (c_L_without l g N ct_343 σ (by omega) hG h12 fr h_347 hR fq h_348 hQ fw h_349 (nI r0)) (lk_RL_42 E.1.2.2.2.2 ⟨Nat.le_of_ble_eq_true rfl, Nat.le_of_ble_eq_true rfl⟩) (fpreS E hP hS) rfl rfl hl.1 rfl (lv_room (Nat.le_of_ble_eq_true rfl)) dL_same_292 ⟨Nat.zero_le _, Nat.zero_le _⟩) hS (fun r_292 ct_354 H locs p_292 hP hS => ?_)
            obtain ⟨pr9, ⟨fw3, hw3⟩, hs3⟩ := p_292
            have h_355 : ct_354 239 = .inl (fcI g, 6, .inl fl) := ((hs3 239 (by omega))).trans h_344
            have h_356 : ct_354 240 = .inl (fcI g, 6, .inl fsc) := ((hs3 240 (by omega))).trans h_345
            have h_357 : ct_354 241 = .inl (fcI g, 6, .inl fgu) := ((hs3 241 (by omega))).trans h_346
            have h_358 : ct_354 242 = .inl (fcI g, 60, .inl fr) := ((hs3 242 (by omega))).trans h_347
            have h_359 : ct_354 243 = .inl (fcI g, 3, .inl fq) := ((hs3 243 (by omega))).trans h_348
            have h_360 : ct_354 245 = .inl (fcI g, 51, .inl fC) := ((hs3 245 (by omega))).trans h_350
            have h_361 : ct_354 0 = .inr (7, f7_352) := ((hs3 0 (by omega))).trans h7_353
            have hO_362 : OGAt g ct_354 σ k hs u1 s1 u2 s2 t len := OGAt.keep hO_351 (fun j h1 => hs3 j (by omega))
            obtain ⟨f7_363, h7_364⟩ := hO_362.obj
            refine fs_vi (y := (nI (ONn σ r0))) (pr9.trans (congrArg nI (wo_on (by omega) c_282 (by omega)))) ?_
            refine lv_istore (lv' := [(19, .int (nI (ONn σ r0))), (0, .ref (fa g 0)), (1, .int x), (2, .ref (fa g 243)), (3, .ref (fa g 239)), (4, .ref (fa g 240)), (5, .ref (fa g 241)), (6, .ref (fa g 242)), (7, .ref (fa g 244)), (8, .ref (fa g 245)), (9, .int (nI (cN (opn σ) r0))), (10, .int (nI (cN (srF σ) r0))), (11, .int (nI (cN (nvF σ) r0))), (12, .int (nI 0)), (13, .int sh), (14, .int le), (15, .int bl), (16, .int mo), (17, .int (nI r0)), (18, .int (nI (5 * r0)))]) hx hb dL_same_295 hl (by decide) rfl (fun ls hl => ?_)
            refine lv_iload hx hb dL_same_297 (lv_at hl 16 rfl) ?_
            refine lv_if_lt (tgt := 309) hx hb dL_same_299 (by decide) (fun c_299 => ?_) (fun c_299 => ?_)
            · refine lv_iload hx hb dL_same_309 (lv_at hl 18 rfl) ?_
              refine lv_istore (lv' := [(15, .int (nI r0)), (19, .int (nI (ONn σ r0))), (0, .ref (fa g 0)), (1, .int x), (2, .ref (fa g 243)), (3, .ref (fa g 239)), (4, .ref (fa g 240)), (5, .ref (fa g 241)), (6, .ref (fa g 242)), (7, .ref (fa g 244)), (8, .ref (fa g 245)), (9, .int (nI (cN (opn σ) r0))), (10, .int (nI (cN (srF σ) r0))), (11, .int (nI (cN (nvF σ) r0))), (12, .int (nI 0)), (13, .int sh), (14, .int le), (16, .int mo), (17, .int (nI r0)), (18, .int (nI (5 * r0)))]) hx hb dL_same_311 hl (by decide) rfl (fun ls hl => ?_)
              refine lv_iload hx hb dL_same_313 (lv_at hl 1 rfl) ?_
              refine lv_istore (lv' := [(16, .int (nI (ONn σ r0))), (15, .int (nI r0)), (19, .int (nI (ONn σ r0))), (0, .ref (fa g 0)), (1, .int x), (2, .ref (fa g 243)), (3, .ref (fa g 239)), (4, .ref (fa g 240)), (5, .ref (fa g 241)), (6, .ref (fa g 242)), (7, .ref (fa g 244)), (8, .ref (fa g 245)), (9, .int (nI (cN (opn σ) r0))), (10, .int (nI (cN (srF σ) r0))), (11, .int (nI (cN (nvF σ) r0))), (12, .int (nI 0)), (13, .int sh), (14, .int le), (17, .int (nI r0)), (18, .int (nI (5 * r0)))]) hx hb dL_same_315 hl (by decide) rfl (fun ls hl => ?_)
              have e9 : (nI (cN (opn σ) r0)) = (nI (cN (opn σ) (r0 + 1))) := by rw [cN_f hop9]
              have e10 : (nI (cN (srF σ) r0)) = (nI (cN (srF σ) (r0 + 1))) := by rw [cN_f (show srF σ r0 = false by unfold srF; rw [hop9]; rfl)]
              have e11 : (nI (cN (nvF σ) r0)) = (nI (cN (nvF σ) (r0 + 1))) := by rw [cN_f (show nvF σ r0 = false by unfold nvF; rw [hop9]; rfl)]
              rw [e9, e10, e11] at hl
              refine lv_iinc (v := (nI (r0 + 1))) (lv' := [(17, .int (nI (r0 + 1))), (16, .int (nI (ONn σ r0))), (15, .int (nI r0)), (19, .int (nI (ONn σ r0))), (0, .ref (fa g 0)), (1, .int x), (2, .ref (fa g 243)), (3, .ref (fa g 239)), (4, .ref (fa g 240)), (5, .ref (fa g 241)), (6, .ref (fa g 242)), (7, .ref (fa g 244)), (8, .ref (fa g 245)), (9, .int (nI (cN (opn σ) (r0 + 1)))), (10, .int (nI (cN (srF σ) (r0 + 1)))), (11, .int (nI (cN (nvF σ) (r0 + 1)))), (12, .int (nI 0)), (13, .int sh), (14, .int le), (18, .int (nI (5 * r0)))]) hx hb dL_same_317 hl (k := 18) rfl (nI_1 _) (by decide) rfl (fun ls hl => ?_)
              refine lv_goto (tgt := 39) hx hb dL_same_320 (by decide) ?_
              exact ih1 (r0 + 1, sh, le, (nI r0), (nI (ONn σ r0))) _ _ ls _ (by (try dsimp only); omega) ⟨lv_sub hl [4, 5, 6, 7, 8, 9, 10, 11, 12, 13, 14, 15, 16, 17, 18, 2, 1, 0] rfl, by (try dsimp only); omega, SH_no hSH hop9, BL_new hG (by omega) hBL c_282 hop9 (Or.inl c_299), hO_362, ⟨h_355, h_356, h_357, h_358, h_359⟩, ⟨_, hw3⟩, h_360⟩ hP hS
            · refine lv_iload hx hb dL_same_302 (lv_at hl 0 rfl) ?_
              refine lv_iload hx hb dL_same_304 (lv_at hl 17 rfl) ?_
              refine lv_icmp_le (tgt := 317) hx hb dL_same_306 (by decide) (fun c_306 => ?_) (fun c_306 => ?_)
              · have e9 : (nI (cN (opn σ) r0)) = (nI (cN (opn σ) (r0 + 1))) := by rw [cN_f hop9]
                have e10 : (nI (cN (srF σ) r0)) = (nI (cN (srF σ) (r0 + 1))) := by rw [cN_f (show srF σ r0 = false by unfold srF; rw [hop9]; rfl)]
                have e11 : (nI (cN (nvF σ) r0)) = (nI (cN (nvF σ) (r0 + 1))) := by rw [cN_f (show nvF σ r0 = false by unfold nvF; rw [hop9]; rfl)]
                rw [e9, e10, e11] at hl
                refine lv_iinc (v := (nI (r0 + 1))) (lv' := [(17, .int (nI (r0 + 1))), (19, .int (nI (ONn σ r0))), (0, .ref (fa g 0)), (1, .int x), (2, .ref (fa g 243)), (3, .ref (fa g 239)), (4, .ref (fa g 240)), (5, .ref (fa g 241)), (6, .ref (fa g 242)), (7, .ref (fa g 244)), (8, .ref (fa g 245)), (9, .int (nI (cN (opn σ) (r0 + 1)))), (10, .int (nI (cN (srF σ) (r0 + 1)))), (11, .int (nI (cN (nvF σ) (r0 + 1)))), (12, .int (nI 0)), (13, .int sh), (14, .int le), (15, .int bl), (16, .int mo), (18, .int (nI (5 * r0)))]) hx hb dL_same_317 hl (k := 18) rfl (nI_1 _) (by decide) rfl (fun ls hl => ?_)
                refine lv_goto (tgt := 39) hx hb dL_same_320 (by decide) ?_
                exact ih1 (r0 + 1, sh, le, bl, mo) _ _ ls _ (by (try dsimp only); omega) ⟨lv_sub hl [2, 3, 4, 5, 6, 7, 8, 9, 10, 11, 12, 13, 14, 15, 16, 17, 18, 0] rfl, by (try dsimp only); omega, SH_no hSH hop9, BL_old hG (by omega) hBL c_282 hop9 c_299 (Int32.not_lt.mpr c_306), hO_362, ⟨h_355, h_356, h_357, h_358, h_359⟩, ⟨_, hw3⟩, h_360⟩ hP hS
              · refine lv_iload hx hb dL_same_309 (lv_at hl 18 rfl) ?_
                refine lv_istore (lv' := [(15, .int (nI r0)), (19, .int (nI (ONn σ r0))), (0, .ref (fa g 0)), (1, .int x), (2, .ref (fa g 243)), (3, .ref (fa g 239)), (4, .ref (fa g 240)), (5, .ref (fa g 241)), (6, .ref (fa g 242)), (7, .ref (fa g 244)), (8, .ref (fa g 245)), (9, .int (nI (cN (opn σ) r0))), (10, .int (nI (cN (srF σ) r0))), (11, .int (nI (cN (nvF σ) r0))), (12, .int (nI 0)), (13, .int sh), (14, .int le), (16, .int mo), (17, .int (nI r0)), (18, .int (nI (5 * r0)))]) hx hb dL_same_311 hl (by decide) rfl (fun ls hl => ?_)
                refine lv_iload hx hb dL_same_313 (lv_at hl 1 rfl) ?_
                refine lv_istore (lv' := [(16, .int (nI (ONn σ r0))), (15, .int (nI r0)), (19, .int (nI (ONn σ r0))), (0, .ref (fa g 0)), (1, .int x), (2, .ref (fa g 243)), (3, .ref (fa g 239)), (4, .ref (fa g 240)), (5, .ref (fa g 241)), (6, .ref (fa g 242)), (7, .ref (fa g 244)), (8, .ref (fa g 245)), (9, .int (nI (cN (opn σ) r0))), (10, .int (nI (cN (srF σ) r0))), (11, .int (nI (cN (nvF σ) r0))), (12, .int (nI 0)), (13, .int sh), (14, .int le), (17, .int (nI r0)), (18, .int (nI (5 * r0)))]) hx hb dL_same_315 hl (by decide) rfl (fun ls hl => ?_)
                have e9 : (nI (cN (opn σ) r0)) = (nI (cN (opn σ) (r0 + 1))) := by rw [cN_f hop9]
                have e10 : (nI (cN (srF σ) r0)) = (nI (cN (srF σ) (r0 + 1))) := by rw [cN_f (show srF σ r0 = false by unfold srF; rw [hop9]; rfl)]
                have e11 : (nI (cN (nvF σ) r0)) = (nI (cN (nvF σ) (r0 + 1))) := by rw [cN_f (show nvF σ r0 = false by unfold nvF; rw [hop9]; rfl)]
                rw [e9, e10, e11] at hl
                refine lv_iinc (v := (nI (r0 + 1))) (lv' := [(17, .int (nI (r0 + 1))), (16, .int (nI (ONn σ r0))), (15, .int (nI r0)), (19, .int (nI (ONn σ r0))), (0, .ref (fa g 0)), (1, .int x), (2, .ref (fa g 243)), (3, .ref (fa g 239)), (4, .ref (fa g 240)), (5, .ref (fa g 241)), (6, .ref (fa g 242)), (7, .ref (fa g 244)), (8, .ref (fa g 245)), (9, .int (nI (cN (opn σ) (r0 + 1)))), (10, .int (nI (cN (srF σ) (r0 + 1)))), (11, .int (nI (cN (nvF σ) (r0 + 1)))), (12, .int (nI 0)), (13, .int sh), (14, .int le), (18, .int (nI (5 * r0)))]) hx hb dL_same_317 hl (k := 18) rfl (nI_1 _) (by decide) rfl (fun ls hl => ?_)
                refine lv_goto (tgt := 39) hx hb dL_same_320 (by decide) ?_
                exact ih1 (r0 + 1, sh, le, (nI r0), (nI (ONn σ r0))) _ _ ls _ (by (try dsimp only); omega) ⟨lv_sub hl [4, 5, 6, 7, 8, 9, 10, 11, 12, 13, 14, 15, 16, 17, 18, 2, 1, 0] rfl, by (try dsimp only); omega, SH_no hSH hop9, BL_new hG (by omega) hBL c_282 hop9 (Or.inr (Int32.not_le.mp c_306)), hO_362, ⟨h_355, h_356, h_357, h_358, h_359⟩, ⟨_, hw3⟩, h_360⟩ hP hS
        · rw [fz_eqN (by omega)] at c_146
          have hop9 : opn σ r0 = true := decide_eq_true c_146
          refine fs_cutS (g := g) (F0 m 190 ls [.int (nI (WOn σ r0))]) (fun locs hS => ?_) (fun K_190 => ?_)
          · skip
            refine lv_istore (lv' := [(19, .int (nI (WOn σ r0))), (0, .ref (fa g 0)), (1, .int x), (2, .ref (fa g 243)), (3, .ref (fa g 239)), (4, .ref (fa g 240)), (5, .ref (fa g 241)), (6, .ref (fa g 242)), (7, .ref (fa g 244)), (8, .ref (fa g 245)), (9, .int (nI (cN (opn σ) r0))), (10, .int (nI (cN (srF σ) r0))), (11, .int (nI (cN (nvF σ) r0))), (12, .int (nI 0)), (13, .int sh), (14, .int le), (15, .int bl), (16, .int mo), (17, .int (nI r0)), (18, .int (nI (5 * r0)))]) hx hb dL_same_190 hl (by decide) rfl (fun ls hl => ?_)
            have hWO := WOn_le hG r0
            refine lv_iinc (v := (nI (cN (opn σ) (r0 + 1)))) (lv' := [(9, .int (nI (cN (opn σ) (r0 + 1)))), (19, .int (nI (WOn σ r0))), (0, .ref (fa g 0)), (1, .int x), (2, .ref (fa g 243)), (3, .ref (fa g 239)), (4, .ref (fa g 240)), (5, .ref (fa g 241)), (6, .ref (fa g 242)), (7, .ref (fa g 244)), (8, .ref (fa g 245)), (10, .int (nI (cN (srF σ) r0))), (11, .int (nI (cN (nvF σ) r0))), (12, .int (nI 0)), (13, .int sh), (14, .int le), (15, .int bl), (16, .int mo), (17, .int (nI r0)), (18, .int (nI (5 * r0)))]) hx hb dL_same_192 hl (k := 10) rfl (by rw [cN_t hop9]; exact nI_1 _) (by decide) rfl (fun ls hl => ?_)
            refine fs_cutS (g := g) (F0 m 225 ls [.int (nI (cN (srF σ) (r0 + 1)))]) (fun locs hS => ?_) (fun K_225 => ?_)
            · skip
              refine lv_istore (lv' := [(10, .int (nI (cN (srF σ) (r0 + 1)))), (9, .int (nI (cN (opn σ) (r0 + 1)))), (19, .int (nI (WOn σ r0))), (0, .ref (fa g 0)), (1, .int x), (2, .ref (fa g 243)), (3, .ref (fa g 239)), (4, .ref (fa g 240)), (5, .ref (fa g 241)), (6, .ref (fa g 242)), (7, .ref (fa g 244)), (8, .ref (fa g 245)), (11, .int (nI (cN (nvF σ) r0))), (12, .int (nI 0)), (13, .int sh), (14, .int le), (15, .int bl), (16, .int mo), (17, .int (nI r0)), (18, .int (nI (5 * r0)))]) hx hb dL_same_225 hl (by decide) rfl (fun ls hl => ?_)
              refine fs_cutS (g := g) (F0 m 253 ls [.int (nI (cN (nvF σ) (r0 + 1)))]) (fun locs hS => ?_) (fun K_253 => ?_)
              · skip
                refine lv_istore (lv' := [(11, .int (nI (cN (nvF σ) (r0 + 1)))), (10, .int (nI (cN (srF σ) (r0 + 1)))), (9, .int (nI (cN (opn σ) (r0 + 1)))), (19, .int (nI (WOn σ r0))), (0, .ref (fa g 0)), (1, .int x), (2, .ref (fa g 243)), (3, .ref (fa g 239)), (4, .ref (fa g 240)), (5, .ref (fa g 241)), (6, .ref (fa g 242)), (7, .ref (fa g 244)), (8, .ref (fa g 245)), (12, .int (nI 0)), (13, .int sh), (14, .int le), (15, .int bl), (16, .int mo), (17, .int (nI r0)), (18, .int (nI (5 * r0)))]) hx hb dL_same_253 hl (by decide) rfl (fun ls hl => ?_)
                refine lv_iload hx hb dL_same_255 (lv_at hl 14 rfl) ?_
                refine lv_if_lt (tgt := 267) hx hb dL_same_257 (by decide) (fun c_257 => ?_) (fun c_257 => ?_)
                · refine lv_iload hx hb dL_same_267 (lv_at hl 18 rfl) ?_
                  refine lv_istore (lv' := [(13, .int (nI r0)), (11, .int (nI (cN (nvF σ) (r0 + 1)))), (10, .int (nI (cN (srF σ) (r0 + 1)))), (9, .int (nI (cN (opn σ) (r0 + 1)))), (19, .int (nI (WOn σ r0))), (0, .ref (fa g 0)), (1, .int x), (2, .ref (fa g 243)), (3, .ref (fa g 239)), (4, .ref (fa g 240)), (5, .ref (fa g 241)), (6, .ref (fa g 242)), (7, .ref (fa g 244)), (8, .ref (fa g 245)), (12, .int (nI 0)), (14, .int le), (15, .int bl), (16, .int mo), (17, .int (nI r0)), (18, .int (nI (5 * r0)))]) hx hb dL_same_269 hl (by decide) rfl (fun ls hl => ?_)
                  refine lv_iload hx hb dL_same_271 (lv_at hl 4 rfl) ?_
                  refine lv_istore (lv' := [(14, .int (nI (WOn σ r0))), (13, .int (nI r0)), (11, .int (nI (cN (nvF σ) (r0 + 1)))), (10, .int (nI (cN (srF σ) (r0 + 1)))), (9, .int (nI (cN (opn σ) (r0 + 1)))), (19, .int (nI (WOn σ r0))), (0, .ref (fa g 0)), (1, .int x), (2, .ref (fa g 243)), (3, .ref (fa g 239)), (4, .ref (fa g 240)), (5, .ref (fa g 241)), (6, .ref (fa g 242)), (7, .ref (fa g 244)), (8, .ref (fa g 245)), (12, .int (nI 0)), (15, .int bl), (16, .int mo), (17, .int (nI r0)), (18, .int (nI (5 * r0)))]) hx hb dL_same_273 hl (by decide) rfl (fun ls hl => ?_)
                  refine lv_goto (tgt := 317) hx hb dL_same_275 (by decide) ?_
                  refine lv_iinc (v := (nI (r0 + 1))) (lv' := [(17, .int (nI (r0 + 1))), (14, .int (nI (WOn σ r0))), (13, .int (nI r0)), (11, .int (nI (cN (nvF σ) (r0 + 1)))), (10, .int (nI (cN (srF σ) (r0 + 1)))), (9, .int (nI (cN (opn σ) (r0 + 1)))), (19, .int (nI (WOn σ r0))), (0, .ref (fa g 0)), (1, .int x), (2, .ref (fa g 243)), (3, .ref (fa g 239)), (4, .ref (fa g 240)), (5, .ref (fa g 241)), (6, .ref (fa g 242)), (7, .ref (fa g 244)), (8, .ref (fa g 245)), (12, .int (nI 0)), (15, .int bl), (16, .int mo), (18, .int (nI (5 * r0)))]) hx hb dL_same_317 hl (k := 18) rfl (nI_1 _) (by decide) rfl (fun ls hl => ?_)
                  refine lv_goto (tgt := 39) hx hb dL_same_320 (by decide) ?_
                  exact ih1 (r0 + 1, (nI r0), (nI (WOn σ r0)), bl, mo) _ _ ls _ (by (try dsimp only); omega) ⟨lv_sub hl [7, 8, 9, 10, 11, 12, 13, 14, 15, 5, 4, 3, 16, 2, 1, 17, 18, 0] rfl, by (try dsimp only); omega, SH_new hG (by omega) hSH hop9 (Or.inl c_257), BL_no hBL hop9, hO_351, ⟨h_344, h_345, h_346, h_347, h_348⟩, ⟨_, h_349⟩, h_350⟩ hP hS
                · refine lv_iload hx hb dL_same_260 (lv_at hl 3 rfl) ?_
                  refine lv_iload hx hb dL_same_262 (lv_at hl 15 rfl) ?_
                  refine lv_icmp_ge (tgt := 275) hx hb dL_same_264 (by decide) (fun c_264 => ?_) (fun c_264 => ?_)
                  · refine lv_goto (tgt := 317) hx hb dL_same_275 (by decide) ?_
                    refine lv_iinc (v := (nI (r0 + 1))) (lv' := [(17, .int (nI (r0 + 1))), (11, .int (nI (cN (nvF σ) (r0 + 1)))), (10, .int (nI (cN (srF σ) (r0 + 1)))), (9, .int (nI (cN (opn σ) (r0 + 1)))), (19, .int (nI (WOn σ r0))), (0, .ref (fa g 0)), (1, .int x), (2, .ref (fa g 243)), (3, .ref (fa g 239)), (4, .ref (fa g 240)), (5, .ref (fa g 241)), (6, .ref (fa g 242)), (7, .ref (fa g 244)), (8, .ref (fa g 245)), (12, .int (nI 0)), (13, .int sh), (14, .int le), (15, .int bl), (16, .int mo), (18, .int (nI (5 * r0)))]) hx hb dL_same_317 hl (k := 18) rfl (nI_1 _) (by decide) rfl (fun ls hl => ?_)
                    refine lv_goto (tgt := 39) hx hb dL_same_320 (by decide) ?_
                    exact ih1 (r0 + 1, sh, le, bl, mo) _ _ ls _ (by (try dsimp only); omega) ⟨lv_sub hl [5, 6, 7, 8, 9, 10, 11, 12, 13, 3, 2, 1, 14, 15, 16, 17, 18, 0] rfl, by (try dsimp only); omega, SH_old hG (by omega) hSH hop9 c_257 (Int32.not_lt.mpr c_264), BL_no hBL hop9, hO_351, ⟨h_344, h_345, h_346, h_347, h_348⟩, ⟨_, h_349⟩, h_350⟩ hP hS
                  · refine lv_iload hx hb dL_same_267 (lv_at hl 18 rfl) ?_
                    refine lv_istore (lv' := [(13, .int (nI r0)), (11, .int (nI (cN (nvF σ) (r0 + 1)))), (10, .int (nI (cN (srF σ) (r0 + 1)))), (9, .int (nI (cN (opn σ) (r0 + 1)))), (19, .int (nI (WOn σ r0))), (0, .ref (fa g 0)), (1, .int x), (2, .ref (fa g 243)), (3, .ref (fa g 239)), (4, .ref (fa g 240)), (5, .ref (fa g 241)), (6, .ref (fa g 242)), (7, .ref (fa g 244)), (8, .ref (fa g 245)), (12, .int (nI 0)), (14, .int le), (15, .int bl), (16, .int mo), (17, .int (nI r0)), (18, .int (nI (5 * r0)))]) hx hb dL_same_269 hl (by decide) rfl (fun ls hl => ?_)
                    refine lv_iload hx hb dL_same_271 (lv_at hl 4 rfl) ?_
                    refine lv_istore (lv' := [(14, .int (nI (WOn σ r0))), (13, .int (nI r0)), (11, .int (nI (cN (nvF σ) (r0 + 1)))), (10, .int (nI (cN (srF σ) (r0 + 1)))), (9, .int (nI (cN (opn σ) (r0 + 1)))), (19, .int (nI (WOn σ r0))), (0, .ref (fa g 0)), (1, .int x), (2, .ref (fa g 243)), (3, .ref (fa g 239)), (4, .ref (fa g 240)), (5, .ref (fa g 241)), (6, .ref (fa g 242)), (7, .ref (fa g 244)), (8, .ref (fa g 245)), (12, .int (nI 0)), (15, .int bl), (16, .int mo), (17, .int (nI r0)), (18, .int (nI (5 * r0)))]) hx hb dL_same_273 hl (by decide) rfl (fun ls hl => ?_)
                    refine lv_goto (tgt := 317) hx hb dL_same_275 (by decide) ?_
                    refine lv_iinc (v := (nI (r0 + 1))) (lv' := [(17, .int (nI (r0 + 1))), (14, .int (nI (WOn σ r0))), (13, .int (nI r0)), (11, .int (nI (cN (nvF σ) (r0 + 1)))), (10, .int (nI (cN (srF σ) (r0 + 1)))), (9, .int (nI (cN (opn σ) (r0 + 1)))), (19, .int (nI (WOn σ r0))), (0, .ref (fa g 0)), (1, .int x), (2, .ref (fa g 243)), (3, .ref (fa g 239)), (4, .ref (fa g 240)), (5, .ref (fa g 241)), (6, .ref (fa g 242)), (7, .ref (fa g 244)), (8, .ref (fa g 245)), (12, .int (nI 0)), (15, .int bl), (16, .int mo), (18, .int (nI (5 * r0)))]) hx hb dL_same_317 hl (k := 18) rfl (nI_1 _) (by decide) rfl (fun ls hl => ?_)
                    refine lv_goto (tgt := 39) hx hb dL_same_320 (by decide) ?_
                    exact ih1 (r0 + 1, (nI r0), (nI (WOn σ r0)), bl, mo) _ _ ls _ (by (try dsimp only); omega) ⟨lv_sub hl [7, 8, 9, 10, 11, 12, 13, 14, 15, 5, 4, 3, 16, 2, 1, 17, 18, 0] rfl, by (try dsimp only); omega, SH_new hG (by omega) hSH hop9 (Or.inr (Int32.not_le.mp c_264)), BL_no hBL hop9, hO_351, ⟨h_344, h_345, h_346, h_347, h_348⟩, ⟨_, h_349⟩, h_350⟩ hP hS
              refine lv_iload hx hb dL_same_227 (lv_at hl 12 rfl) ?_
              refine lv_aload hx hb dL_same_229 (lv_at hl 11 rfl) ?_
              refine lv_iconst (v := (nI 0)) hx hb dL_same_231 (by decide) ?_
              refine fs_iald E hP (k := 245) h_350 (by omega) (vp_in_nI (by omega) (by omega)) dL_same_232 ?_
              refine fs_vi (y := fC 0) (congrArg fC (nI_clamp (by omega))) ?_
              refine fs_vi (y := (nI (Wn σ))) hCO.1 ?_
              refine lv_if_le (tgt := 251) hx hb dL_same_233 (by decide) (fun c_233 => ?_) (fun c_233 => ?_)
              · rw [fz_leN (by omega)] at c_233
                refine lv_iconst (v := (nI 0)) hx hb dL_same_251 (by decide) ?_
                refine lv_iadd hx hb dL_same_252 ?_
                refine fs_vi (y := (nI (cN (nvF σ) (r0 + 1)))) (by rw [cN_f (show nvF σ r0 = false by unfold nvF; rw [hop9, decide_eq_false (fun y => by omega)]; rfl)]; exact nI_add _ 0) ?_
                exact K_253 _ hS
              · rw [fz_leN (by omega)] at c_233
                refine lv_aload hx hb dL_same_236 (lv_at hl 11 rfl) ?_
                refine lv_bipush (v := (nI 37)) hx hb dL_same_238 (by decide) ?_
                refine lv_iload hx hb dL_same_240 (lv_at hl 18 rfl) ?_
                refine lv_iadd hx hb dL_same_242 ?_
                refine fs_vi (y := nI (37 + r0)) (nI_add _ _) ?_
                refine fs_iald E hP (k := 245) h_350 (by omega) (vp_in_nI (by omega) (by omega)) dL_same_243 ?_
                refine fs_vi (y := fC (37 + r0)) (congrArg fC (nI_clamp (by omega))) ?_
                refine fs_vi (y := (nI (HDn σ r0))) (hCO.2.2.1 r0 (by omega)) ?_
                refine lv_if_ne (tgt := 251) hx hb dL_same_244 (by decide) (fun c_244 => ?_) (fun c_244 => ?_)
                · rw [fz_eqN (by omega)] at c_244
                  refine lv_iconst (v := (nI 0)) hx hb dL_same_251 (by decide) ?_
                  refine lv_iadd hx hb dL_same_252 ?_
                  refine fs_vi (y := (nI (cN (nvF σ) (r0 + 1)))) (by rw [cN_f (show nvF σ r0 = false by unfold nvF; rw [hop9, decide_eq_false (fun y => c_244 y.2)]; rfl)]; exact nI_add _ 0) ?_
                  exact K_253 _ hS
                · rw [fz_eqN (by omega)] at c_244
                  refine lv_iconst (v := (nI 1)) hx hb dL_same_247 (by decide) ?_
                  refine lv_goto (tgt := 252) hx hb dL_same_248 (by decide) ?_
                  refine lv_iadd hx hb dL_same_252 ?_
                  refine fs_vi (y := (nI (cN (nvF σ) (r0 + 1)))) (by rw [cN_t (show nvF σ r0 = true by unfold nvF; rw [hop9, decide_eq_true ⟨by omega, c_244⟩]; rfl)]; exact nI_add _ _) ?_
                  exact K_253 _ hS
            refine lv_iload hx hb dL_same_195 (lv_at hl 11 rfl) ?_
            refine lv_aload hx hb dL_same_197 (lv_at hl 10 rfl) ?_
            refine lv_iconst (v := (nI 0)) hx hb dL_same_199 (by decide) ?_
            refine fs_iald E hP (k := 245) h_350 (by omega) (vp_in_nI (by omega) (by omega)) dL_same_200 ?_
            refine fs_vi (y := fC 0) (congrArg fC (nI_clamp (by omega))) ?_
            refine fs_vi (y := (nI (Wn σ))) hCO.1 ?_
            refine lv_if_le (tgt := 223) hx hb dL_same_201 (by decide) (fun c_201 => ?_) (fun c_201 => ?_)
            · rw [fz_leN (by omega)] at c_201
              refine lv_iconst (v := (nI 0)) hx hb dL_same_223 (by decide) ?_
              refine lv_iadd hx hb dL_same_224 ?_
              refine fs_vi (y := (nI (cN (srF σ) (r0 + 1)))) (by rw [cN_f (show srF σ r0 = false by unfold srF; rw [hop9, decide_eq_false (fun y => by omega)]; rfl)]; exact nI_add _ 0) ?_
              exact K_225 _ hS
            · rw [fz_leN (by omega)] at c_201
              refine lv_aload hx hb dL_same_204 (lv_at hl 10 rfl) ?_
              refine lv_bipush (v := (nI 37)) hx hb dL_same_206 (by decide) ?_
              refine lv_iload hx hb dL_same_208 (lv_at hl 18 rfl) ?_
              refine lv_iadd hx hb dL_same_210 ?_
              refine fs_vi (y := nI (37 + r0)) (nI_add _ _) ?_
              refine fs_iald E hP (k := 245) h_350 (by omega) (vp_in_nI (by omega) (by omega)) dL_same_211 ?_
              refine fs_vi (y := fC (37 + r0)) (congrArg fC (nI_clamp (by omega))) ?_
              refine fs_vi (y := (nI (HDn σ r0))) (hCO.2.2.1 r0 (by omega)) ?_
              refine lv_aload hx hb dL_same_212 (lv_at hl 10 rfl) ?_
              refine lv_iconst (v := (nI 0)) hx hb dL_same_214 (by decide) ?_
              refine fs_iald E hP (k := 245) h_350 (by omega) (vp_in_nI (by omega) (by omega)) dL_same_215 ?_
              refine fs_vi (y := fC 0) (congrArg fC (nI_clamp (by omega))) ?_
              refine fs_vi (y := (nI (Wn σ))) hCO.1 ?_
              refine lv_icmp_ne (tgt := 223) hx hb dL_same_216 (by decide) (fun c_216 => ?_) (fun c_216 => ?_)
              · rw [nI_eq (by omega) (by omega)] at c_216
                refine lv_iconst (v := (nI 0)) hx hb dL_same_223 (by decide) ?_
                refine lv_iadd hx hb dL_same_224 ?_
                refine fs_vi (y := (nI (cN (srF σ) (r0 + 1)))) (by rw [cN_f (show srF σ r0 = false by unfold srF; rw [hop9, decide_eq_false (fun y => c_216 y.2)]; rfl)]; exact nI_add _ 0) ?_
                exact K_225 _ hS
              · rw [nI_eq (by omega) (by omega)] at c_216
                refine lv_iconst (v := (nI 1)) hx hb dL_same_219 (by decide) ?_
                refine lv_goto (tgt := 224) hx hb dL_same_220 (by decide) ?_
                refine lv_iadd hx hb dL_same_224 ?_
                refine fs_vi (y := (nI (cN (srF σ) (r0 + 1)))) (by rw [cN_t (show srF σ r0 = true by unfold srF; rw [hop9, decide_eq_true ⟨by omega, c_216⟩]; rfl)]; exact nI_add _ _) ?_
                exact K_225 _ hS
          refine lv_aload hx hb dL_same_149 (lv_at hl 8 rfl) ?_
          refine lv_bipush (v := (nI 37)) hx hb dL_same_151 (by decide) ?_
          refine lv_iload hx hb dL_same_153 (lv_at hl 17 rfl) ?_
          refine lv_iadd hx hb dL_same_155 ?_
          refine fs_vi (y := nI (37 + r0)) (nI_add _ _) ?_
          refine fs_iald E hP (k := 245) h_350 (by omega) (vp_in_nI (by omega) (by omega)) dL_same_156 ?_
          refine fs_vi (y := fC (37 + r0)) (congrArg fC (nI_clamp (by omega))) ?_
          refine fs_vi (y := (nI (HDn σ r0))) (hCO.2.2.1 r0 (by omega)) ?_
          refine lv_iconst (v := (nI 2)) hx hb dL_same_157 (by decide) ?_
          refine lv_imul hx hb dL_same_158 ?_
          refine fs_vi (y := nI ((HDn σ r0) * 2)) (pk_mul _ _) ?_
          refine lv_aload hx hb dL_same_159 (lv_at hl 8 rfl) ?_
          refine lv_iconst (v := (nI 0)) hx hb dL_same_161 (by decide) ?_
          refine fs_iald E hP (k := 245) h_350 (by omega) (vp_in_nI (by omega) (by omega)) dL_same_162 ?_
          refine fs_vi (y := fC 0) (congrArg fC (nI_clamp (by omega))) ?_
          refine fs_vi (y := (nI (Wn σ))) hCO.1 ?_
          refine lv_icmp_le (tgt := 177) hx hb dL_same_163 (by decide) (fun c_163 => ?_) (fun c_163 => ?_)
          · rw [nI_leI (by omega) (by omega)] at c_163
            refine lv_aload hx hb dL_same_177 (lv_at hl 8 rfl) ?_
            refine lv_iconst (v := (nI 0)) hx hb dL_same_179 (by decide) ?_
            refine fs_iald E hP (k := 245) h_350 (by omega) (vp_in_nI (by omega) (by omega)) dL_same_180 ?_
            refine fs_vi (y := fC 0) (congrArg fC (nI_clamp (by omega))) ?_
            refine fs_vi (y := (nI (Wn σ))) hCO.1 ?_
            refine lv_aload hx hb dL_same_181 (lv_at hl 8 rfl) ?_
            refine lv_bipush (v := (nI 37)) hx hb dL_same_183 (by decide) ?_
            refine lv_iload hx hb dL_same_185 (lv_at hl 17 rfl) ?_
            refine lv_iadd hx hb dL_same_187 ?_
            refine fs_vi (y := nI (37 + r0)) (nI_add _ _) ?_
            refine fs_iald E hP (k := 245) h_350 (by omega) (vp_in_nI (by omega) (by omega)) dL_same_188 ?_
            refine fs_vi (y := fC (37 + r0)) (congrArg fC (nI_clamp (by omega))) ?_
            refine fs_vi (y := (nI (HDn σ r0))) (hCO.2.2.1 r0 (by omega)) ?_
            refine lv_isub hx hb dL_same_189 ?_
            refine fs_vi (y := (nI (WOn σ r0))) (WO_le hHw c_163) ?_
            exact K_190 _ hS
          · rw [nI_leI (by omega) (by omega)] at c_163
            refine lv_aload hx hb dL_same_166 (lv_at hl 8 rfl) ?_
            refine lv_bipush (v := (nI 37)) hx hb dL_same_168 (by decide) ?_
            refine lv_iload hx hb dL_same_170 (lv_at hl 17 rfl) ?_
            refine lv_iadd hx hb dL_same_172 ?_
            refine fs_vi (y := nI (37 + r0)) (nI_add _ _) ?_
            refine fs_iald E hP (k := 245) h_350 (by omega) (vp_in_nI (by omega) (by omega)) dL_same_173 ?_
            refine fs_vi (y := fC (37 + r0)) (congrArg fC (nI_clamp (by omega))) ?_
            refine fs_vi (y := (nI (HDn σ r0))) (hCO.2.2.1 r0 (by omega)) ?_
            refine lv_goto (tgt := 190) hx hb dL_same_174 (by decide) ?_
            refine fs_vi (y := (nI (WOn σ r0))) (WO_gt hHw c_163) ?_
            exact K_190 _ hS
      refine lv_if_eq (tgt := 114) hx hb dL_same_107 (by decide) (fun c_107 => ?_) (fun c_107 => ?_)
      · have c_107 := (fb_0 p_104).mp c_107
        refine lv_iconst (v := (nI 0)) hx hb dL_same_114 (by decide) ?_
        refine fs_vi (y := (bI (hdr σ (lkf σ) r0 = true))) (bI_f c_107) ?_
        exact K_115 _ hS
      · have c_107 := (fb_1 p_104).mp c_107
        refine lv_iconst (v := (nI 1)) hx hb dL_same_110 (by decide) ?_
        refine lv_goto (tgt := 115) hx hb dL_same_111 (by decide) ?_
        refine fs_vi (y := (bI (hdr σ (lkf σ) r0 = true))) (bI_t c_107) ?_
        exact K_115 _ hS
    · rw [nI_leI (by omega) (by omega)] at c_59
      refine lv_aload_n hx hb dL_same_62 rfl (lv_at hl 0 rfl) ?_
      refine lv_iload hx hb dL_same_63 (lv_at hl 17 rfl) ?_
      refine lv_iload hx hb dL_same_65 (lv_at hl 19 rfl) ?_
      refine fs_i (va_runV (As := [.int (nI r0), .int (nI wq)]) (rest := []) E.1 (c_X7_rumour l g N ct_331 σ k hs u1 s1 u2 s2 t len (by omega) hO (nI r0) (nI wq)) (lk_RL_36 E.1.2.2.2.2 ⟨Nat.le_of_ble_eq_true rfl, Nat.le_of_ble_eq_true rfl⟩) (fpreV E hP hS fc7 h7 (by omega)) rfl rfl hl.1 rfl (lv_room (Nat.le_of_ble_eq_true rfl)) dL_same_67 ⟨Nat.zero_le _, Nat.zero_le _⟩) hS (fun r_67 ct_365 H locs p_67 hP hS => ?_)
      have h_366 : ct_365 239 = .inl (fcI g, 6, .inl fl) := ((p_67.2.2 239 (by omega))).trans h39
      have h_367 : ct_365 240 = .inl (fcI g, 6, .inl fsc) := ((p_67.2.2 240 (by omega))).trans h40
      have h_368 : ct_365 241 = .inl (fcI g, 6, .inl fgu) := ((p_67.2.2 241 (by omega))).trans h41
      have h_369 : ct_365 242 = .inl (fcI g, 60, .inl fr) := ((p_67.2.2 242 (by omega))).trans h42
      have h_370 : ct_365 243 = .inl (fcI g, 3, .inl fq) := ((p_67.2.2 243 (by omega))).trans h43
      have h_371 : ct_365 244 = .inl (fcI g, 6, .inl fw) := ((p_67.2.2 244 (by omega))).trans h44
      have h_372 : ct_365 245 = .inl (fcI g, 51, .inl fC) := ((p_67.2.2 245 (by omega))).trans h45
      have hO_373 : OGAt g ct_365 σ k hs u1 s1 u2 s2 t len := p_67.2.1
      obtain ⟨f7_374, h7_375⟩ := hO_373.obj
      refine fs_vi (y := (nI (rk σ r0 wq))) (p_67.1.trans ((rm_a hrl hG.k).trans (rm_w (by omega)))) ?_
      refine lv_aload hx hb dL_same_70 (lv_at hl 6 rfl) ?_
      refine lv_iload hx hb dL_same_72 (lv_at hl 18 rfl) ?_
      refine lv_iload hx hb dL_same_74 (lv_at hl 19 rfl) ?_
      refine lv_iadd hx hb dL_same_76 ?_
      refine fs_vi (y := nI (5 * r0 + wq)) (nI_add _ _) ?_
      refine fs_iald E hP (k := 242) h_369 (by omega) (vp_in_nI (by omega) (by omega)) dL_same_77 ?_
      refine fs_vi (y := fr (5 * r0 + wq)) (congrArg fr (nI_clamp (by omega))) ?_
      refine fs_vi (y := (nI (rk σ r0 wq))) (hR r0 wq (by omega) (by omega)) ?_
      refine lv_icmp_eq (tgt := 83) hx hb dL_same_78 (by decide) (fun c_78 => ?_) (fun c_78 => ?_)
      rotate_left
      · exact absurd rfl c_78
      refine lv_iinc (v := (nI (wq + 1))) (lv' := [(19, .int (nI (wq + 1))), (0, .ref (fa g 0)), (1, .int x), (2, .ref (fa g 243)), (3, .ref (fa g 239)), (4, .ref (fa g 240)), (5, .ref (fa g 241)), (6, .ref (fa g 242)), (7, .ref (fa g 244)), (8, .ref (fa g 245)), (9, .int (nI (cN (opn σ) r0))), (10, .int (nI (cN (srF σ) r0))), (11, .int (nI (cN (nvF σ) r0))), (12, .int (nI 0)), (13, .int sh), (14, .int le), (15, .int bl), (16, .int mo), (17, .int (nI r0)), (18, .int (nI (5 * r0)))]) hx hb dL_same_83 hl (k := 19) rfl (nI_1 _) (by decide) rfl (fun ls hl => ?_)
      refine lv_goto (tgt := 56) hx hb dL_same_86 (by decide) ?_
      exact ih2 (wq + 1) _ _ ls _ (by (try dsimp only); omega) ⟨lv_sub hl [1, 2, 3, 4, 5, 6, 7, 8, 9, 10, 11, 12, 13, 14, 15, 16, 17, 18, 19, 0] rfl, by omega, hO_373, ⟨h_366, h_367, h_368, h_369, h_370⟩, ⟨_, h_371⟩, h_372⟩ hP hS
