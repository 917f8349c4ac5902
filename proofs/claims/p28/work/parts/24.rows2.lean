/-! how a house's row changes -/
theorem nB_upd {σ : Nat → Int32} {i : Nat} {x : Int32} (h : i ≠ 0) : nB (upd σ i x) = nB σ := by unfold nB; rw [upd_ne (Ne.symm h)]
theorem nT_upd {σ : Nat → Int32} {i : Nat} {x : Int32} (h : i ≠ 1) : nT (upd σ i x) = nT σ := by unfold nT; rw [upd_ne (Ne.symm h)]
theorem lkf_upd {σ : Nat → Int32} {i p : Nat} {x : Int32} (h : i ≠ 3 + p) : lkf (upd σ i x) p = lkf σ p := by unfold lkf; rw [upd_ne (Ne.symm h)]
theorem rk_upd {σ : Nat → Int32} {i r j : Nat} {x : Int32} (h : i ≠ 21 + 5 * r + j) : rk (upd σ i x) r j = rk σ r j := by unfold rk; rw [upd_ne (Ne.symm h)]
/-- a house at h shows any row that is the same in what it shows -/
theorem HouseAt.row {g : fG} {ct : Nat → va_E} {h : Nat} {σ τ : Nat → Int32} (H : HouseAt g ct h σ) (hb : nB τ = nB σ) (ha : τ 2 = σ 2) (ht : nT τ = nT σ) (hl : ∀ p, p < nB σ → lkf τ p = lkf σ p) (hs : ∀ p, p < 6 → τ (9 + p) = σ (9 + p)) (hg : ∀ p, p < 6 → τ (15 + p) = σ (15 + p)) (hr : ∀ r i, r < nT σ → i < 5 → rk τ r i = rk σ r i) : HouseAt g ct h τ := by
  obtain ⟨h1, ⟨f1, h2, h2b⟩, ⟨f2, h3, h3b⟩, ⟨f3, h4, h4b⟩, h5, h6⟩ := H
  refine ⟨by rw [hb, ha, ht]; exact h1, ⟨f1, h2, fun p hp => ?_⟩, ⟨f2, h3, fun p hp => (h3b p hp).trans (hs p hp).symm⟩, ⟨f3, h4, fun p hp => (h4b p hp).trans (hg p hp).symm⟩, h5, fun r hrr => ?_⟩
  · rw [h2b p hp, hb]
    by_cases q : p < nB σ
    · rw [if_pos q, if_pos q, hl p q]
    · rw [if_neg q, if_neg q]
  · obtain ⟨te, kd, a, b, st, h7, h8⟩ := h6 r hrr
    refine ⟨te, kd, a, b, st, h7, fun q => ?_⟩
    rw [ht] at q
    rw [hr r 0 q (by omega), hr r 1 q (by omega), hr r 2 q (by omega), hr r 3 q (by omega), hr r 4 q (by omega)]
    exact h8 q
theorem HouseAt.how {g : fG} {ct ct1 : Nat → va_E} {h r z : Nat} {σ : Nat → Int32} {te kd a b : Int32} (H : HouseAt g ct h σ) (hr : r < nT σ) (hk : nT σ ≤ 20) (hz : z < 2147483648) (e : te = nI (rk σ r 0) ∧ kd = nI (rk σ r 1) ∧ a = nI (rk σ r 2) ∧ b = nI (rk σ r 3)) (q : ct1 = fu ct (h + 5 + r) (.inr (3, [.int te, .int kd, .int a, .int b, .int (nI z)]))) : HouseAt g ct1 h (upd σ (25 + 5 * r) (nI z)) := by
  subst q
  obtain ⟨h1, ⟨f1, h2, h2b⟩, ⟨f2, h3, h3b⟩, ⟨f3, h4, h4b⟩, ⟨f4, h5, h5b⟩, h6⟩ := H
  have eB : nB (upd σ (25 + 5 * r) (nI z)) = nB σ := nB_upd (by omega)
  have eT : nT (upd σ (25 + 5 * r) (nI z)) = nT σ := nT_upd (by omega)
  refine ⟨?_, ⟨f1, (fu_ne (by omega)).trans h2, fun p hp => ?_⟩, ⟨f2, (fu_ne (by omega)).trans h3, fun p hp => ?_⟩, ⟨f3, (fu_ne (by omega)).trans h4, fun p hp => ?_⟩, ⟨f4, (fu_ne (by omega)).trans h5, h5b⟩, fun r2 hr2 => ?_⟩
  · rw [eB, eT, upd_ne (by omega)]; exact (fu_ne (by omega)).trans h1
  · rw [h2b p hp, eB]
    by_cases q : p < nB σ
    · rw [if_pos q, if_pos q, lkf_upd (by omega)]
    · rw [if_neg q, if_neg q]
  · rw [h3b p hp, upd_ne (by omega)]
  · rw [h4b p hp, upd_ne (by omega)]
  · by_cases q : r2 = r
    · subst q
      refine ⟨te, kd, a, b, nI z, fu_eq _ _ _, fun _ => ?_⟩
      have e4 : rk (upd σ (25 + 5 * r2) (nI z)) r2 4 = z := by
        unfold rk; rw [show 21 + 5 * r2 + 4 = 25 + 5 * r2 by omega, upd_eq, nI_clamp hz]
      rw [rk_upd (by omega), rk_upd (by omega), rk_upd (by omega), rk_upd (by omega), e4]
      exact ⟨e.1, e.2.1, e.2.2.1, e.2.2.2, rfl⟩
    · obtain ⟨te2, kd2, a2, b2, st2, h7, h8⟩ := h6 r2 hr2
      refine ⟨te2, kd2, a2, b2, st2, (fu_ne (by omega)).trans h7, fun q2 => ?_⟩
      rw [eT] at q2
      rw [rk_upd (by omega), rk_upd (by omega), rk_upd (by omega), rk_upd (by omega), rk_upd (by omega)]
      exact h8 q2
theorem HouseAt.score {g : fG} {ct ct1 : Nat → va_E} {h q : Nat} {σ : Nat → Int32} {x : Int32} {f : Nat → Int32} (H : HouseAt g ct h σ) (hq : q < 6) (hf : ct (h + 2) = .inl (fcI g, 6, .inl f)) (e : ct1 = fu ct (h + 2) (.inl (fcI g, 6, .inl (upd f q x)))) : HouseAt g ct1 h (upd σ (9 + q) x) := by
  subst e
  obtain ⟨h1, ⟨f1, h2, h2b⟩, ⟨f2, h3, h3b⟩, ⟨f3, h4, h4b⟩, ⟨f4, h5, h5b⟩, h6⟩ := H
  have ef : f2 = f := by rw [h3] at hf; injection hf with a; injection a with _ a; injection a with _ a; injection a with a
  subst ef
  have eB : nB (upd σ (9 + q) x) = nB σ := nB_upd (by omega)
  have eT : nT (upd σ (9 + q) x) = nT σ := nT_upd (by omega)
  refine ⟨?_, ⟨f1, (fu_ne (by omega)).trans h2, fun p hp => ?_⟩, ⟨_, fu_eq _ _ _, fun p hp => ?_⟩, ⟨f3, (fu_ne (by omega)).trans h4, fun p hp => ?_⟩, ⟨f4, (fu_ne (by omega)).trans h5, h5b⟩, fun r2 hr2 => ?_⟩
  · rw [eB, eT, upd_ne (by omega)]; exact (fu_ne (by omega)).trans h1
  · rw [h2b p hp, eB]
    by_cases q : p < nB σ
    · rw [if_pos q, if_pos q, lkf_upd (by omega)]
    · rw [if_neg q, if_neg q]
  · by_cases z : p = q
    · subst z; rw [upd_eq, upd_eq]
    · rw [upd_ne z, upd_ne (by omega)]; exact h3b p hp
  · rw [h4b p hp, upd_ne (by omega)]
  · obtain ⟨te2, kd2, a2, b2, st2, h7, h8⟩ := h6 r2 hr2
    refine ⟨te2, kd2, a2, b2, st2, (fu_ne (by omega)).trans h7, fun q2 => ?_⟩
    rw [eT] at q2
    rw [rk_upd (by omega), rk_upd (by omega), rk_upd (by omega), rk_upd (by omega), rk_upd (by omega)]
    exact h8 q2
theorem HouseAt.guess {g : fG} {ct ct1 : Nat → va_E} {h q : Nat} {σ : Nat → Int32} {x : Int32} {f : Nat → Int32} (H : HouseAt g ct h σ) (hq : q < 6) (hf : ct (h + 3) = .inl (fcI g, 6, .inl f)) (e : ct1 = fu ct (h + 3) (.inl (fcI g, 6, .inl (upd f q x)))) : HouseAt g ct1 h (upd σ (15 + q) x) := by
  subst e
  obtain ⟨h1, ⟨f1, h2, h2b⟩, ⟨f2, h3, h3b⟩, ⟨f3, h4, h4b⟩, ⟨f4, h5, h5b⟩, h6⟩ := H
  have ef : f3 = f := by rw [h4] at hf; injection hf with a; injection a with _ a; injection a with _ a; injection a with a
  subst ef
  have eB : nB (upd σ (15 + q) x) = nB σ := nB_upd (by omega)
  have eT : nT (upd σ (15 + q) x) = nT σ := nT_upd (by omega)
  refine ⟨?_, ⟨f1, (fu_ne (by omega)).trans h2, fun p hp => ?_⟩, ⟨f2, (fu_ne (by omega)).trans h3, fun p hp => ?_⟩, ⟨_, fu_eq _ _ _, fun p hp => ?_⟩, ⟨f4, (fu_ne (by omega)).trans h5, h5b⟩, fun r2 hr2 => ?_⟩
  · rw [eB, eT, upd_ne (by omega)]; exact (fu_ne (by omega)).trans h1
  · rw [h2b p hp, eB]
    by_cases q : p < nB σ
    · rw [if_pos q, if_pos q, lkf_upd (by omega)]
    · rw [if_neg q, if_neg q]
  · rw [h3b p hp, upd_ne (by omega)]
  · by_cases z : p = q
    · subst z; rw [upd_eq, upd_eq]
    · rw [upd_ne z, upd_ne (by omega)]; exact h4b p hp
  · obtain ⟨te2, kd2, a2, b2, st2, h7, h8⟩ := h6 r2 hr2
    refine ⟨te2, kd2, a2, b2, st2, (fu_ne (by omega)).trans h7, fun q2 => ?_⟩
    rw [eT] at q2
    rw [rk_upd (by omega), rk_upd (by omega), rk_upd (by omega), rk_upd (by omega), rk_upd (by omega)]
    exact h8 q2
theorem HouseAt.look {g : fG} {ct ct1 : Nat → va_E} {h q b : Nat} {σ : Nat → Int32} {f : Nat → Int32} (H : HouseAt g ct h σ) (hq : q < nB σ) (hn : nB σ ≤ 6) (hb : b < 2147483648) (hf : ct (h + 1) = .inl (fcI g, 6, .inl f)) (e : ct1 = fu ct (h + 1) (.inl (fcI g, 6, .inl (upd f q (nI b))))) : HouseAt g ct1 h (upd σ (3 + q) (nI b)) := by
  subst e
  obtain ⟨h1, ⟨f1, h2, h2b⟩, ⟨f2, h3, h3b⟩, ⟨f3, h4, h4b⟩, ⟨f4, h5, h5b⟩, h6⟩ := H
  have ef : f1 = f := by rw [h2] at hf; injection hf with a; injection a with _ a; injection a with _ a; injection a with a
  subst ef
  have eB : nB (upd σ (3 + q) (nI b)) = nB σ := nB_upd (by omega)
  have eT : nT (upd σ (3 + q) (nI b)) = nT σ := nT_upd (by omega)
  refine ⟨?_, ⟨_, fu_eq _ _ _, fun p hp => ?_⟩, ⟨f2, (fu_ne (by omega)).trans h3, fun p hp => ?_⟩, ⟨f3, (fu_ne (by omega)).trans h4, fun p hp => ?_⟩, ⟨f4, (fu_ne (by omega)).trans h5, h5b⟩, fun r2 hr2 => ?_⟩
  · rw [eB, eT, upd_ne (by omega)]; exact (fu_ne (by omega)).trans h1
  · rw [eB]
    by_cases z : p = q
    · subst z
      rw [upd_eq, if_pos hq]
      unfold lkf; rw [if_pos (by omega), upd_eq, nI_clamp hb]
    · rw [upd_ne z, h2b p hp]
      by_cases q2 : p < nB σ
      · rw [if_pos q2, if_pos q2, lkf_upd (by omega)]
      · rw [if_neg q2, if_neg q2]
  · rw [h3b p hp, upd_ne (by omega)]
  · rw [h4b p hp, upd_ne (by omega)]
  · obtain ⟨te2, kd2, a2, b2, st2, h7, h8⟩ := h6 r2 hr2
    refine ⟨te2, kd2, a2, b2, st2, (fu_ne (by omega)).trans h7, fun q2 => ?_⟩
    rw [eT] at q2
    rw [rk_upd (by omega), rk_upd (by omega), rk_upd (by omega), rk_upd (by omega), rk_upd (by omega)]
    exact h8 q2
/-- a new house -/
def sOpen (n : Nat) : Nat → Int32 := fun i => if i = 0 then nI n else if 3 ≤ i ∧ i < 3 + n then nI ((i - 3 + 1) % n) else nI 0
theorem nB_open {n : Nat} (h : n < 2147483648) : nB (sOpen n) = n := by unfold nB sOpen; rw [if_pos rfl, nI_clamp h]
theorem nT_open (n : Nat) : nT (sOpen n) = 0 := by unfold nT sOpen; rw [if_neg (by omega), if_neg (by omega)]; exact nI_clamp (by omega)
theorem lkf_open {n p : Nat} (h : n ≤ 6) (hp : p < n) : lkf (sOpen n) p = (p + 1) % n := by
  unfold lkf sOpen; rw [if_pos (by omega), if_neg (by omega), if_pos (by omega), show 3 + p - 3 + 1 = p + 1 by omega, nI_clamp]
  have := Nat.mod_lt (p + 1) (show 0 < n by omega); omega
theorem sOpen_z {n i : Nat} (h0 : i ≠ 0) (h : i < 3 ∨ 3 + n ≤ i) : sOpen n i = nI 0 := by unfold sOpen; rw [if_neg h0, if_neg (by omega)]
theorem modS {n p : Nat} (hp : p < n) : (p + 1) % n = if p + 1 < n then p + 1 else 0 := by
  by_cases h : p + 1 < n
  · rw [if_pos h, Nat.mod_eq_of_lt h]
  · rw [if_neg h, show p + 1 = n by omega, Nat.mod_self]
theorem Good_open {n : Nat} (h3 : 3 ≤ n) (h6 : n ≤ 6) : Good (sOpen n) := by
  have eB := nB_open (n := n) (by omega)
  refine ⟨⟨?_, by omega, by omega⟩, ⟨?_, by rw [nT_open]; omega⟩, fun p hp => ?_, fun p hp => Or.inl (sOpen_z (by omega) (by omega)), fun r hr => absurd hr (by rw [nT_open]; omega)⟩
  · rw [eB]; unfold sOpen; rw [if_pos rfl]
  · rw [nT_open]; exact sOpen_z (by omega) (by omega)
  · rw [eB] at hp
    have e := lkf_open h6 hp
    rw [e, eB]
    refine ⟨?_, Nat.mod_lt _ (by omega), ?_⟩
    · unfold sOpen; rw [if_neg (by omega), if_pos (by omega), show 3 + p - 3 + 1 = p + 1 by omega]
    · rw [modS hp]; split <;> omega
/-- a rumour more -/
def sTell (σ : Nat → Int32) (te kd a b : Nat) : Nat → Int32 := upd (upd (upd (upd (upd (upd σ (21 + 5 * nT σ) (nI te)) (22 + 5 * nT σ) (nI kd)) (23 + 5 * nT σ) (nI a)) (24 + 5 * nT σ) (nI b)) (25 + 5 * nT σ) (nI 0)) 1 (nI (nT σ + 1))
theorem sTell_o {σ : Nat → Int32} {te kd a b i : Nat} (h1 : i ≠ 1) (h : i < 21 + 5 * nT σ ∨ 26 + 5 * nT σ ≤ i) : sTell σ te kd a b i = σ i := by
  unfold sTell; rw [upd_ne h1, upd_ne (by omega), upd_ne (by omega), upd_ne (by omega), upd_ne (by omega), upd_ne (by omega)]
theorem nB_tell {σ : Nat → Int32} {te kd a b : Nat} : nB (sTell σ te kd a b) = nB σ := by unfold nB; rw [sTell_o (by omega) (by omega)]
theorem nT_tell {σ : Nat → Int32} {te kd a b : Nat} (h : nT σ ≤ 20) : nT (sTell σ te kd a b) = nT σ + 1 := by
  show (sTell σ te kd a b 1).toNatClampNeg = _
  unfold sTell; rw [upd_eq, nI_clamp (by omega)]
theorem rk_tell {σ : Nat → Int32} {te kd a b r i : Nat} (hr : r < nT σ) (hi : i < 5) : rk (sTell σ te kd a b) r i = rk σ r i := by unfold rk; rw [sTell_o (by omega) (by omega)]
theorem lkf_tell {σ : Nat → Int32} {te kd a b p : Nat} (hp : p < 6) : lkf (sTell σ te kd a b) p = lkf σ p := by unfold lkf; rw [sTell_o (by omega) (by omega)]
theorem rk_told {σ : Nat → Int32} {te kd a b : Nat} (h1 : te < 2147483648) (h2 : kd < 2147483648) (h3 : a < 2147483648) (h4 : b < 2147483648) : rk (sTell σ te kd a b) (nT σ) 0 = te ∧ rk (sTell σ te kd a b) (nT σ) 1 = kd ∧ rk (sTell σ te kd a b) (nT σ) 2 = a ∧ rk (sTell σ te kd a b) (nT σ) 3 = b ∧ rk (sTell σ te kd a b) (nT σ) 4 = 0 := by
  have z : (0 : Nat) < 2147483648 := by omega
  refine ⟨?_, ?_, ?_, ?_, ?_⟩ <;> unfold rk sTell
  · rw [upd_ne (by omega), upd_ne (by omega), upd_ne (by omega), upd_ne (by omega), upd_ne (by omega), show 21 + 5 * nT σ + 0 = 21 + 5 * nT σ by omega, upd_eq, nI_clamp h1]
  · rw [upd_ne (by omega), upd_ne (by omega), upd_ne (by omega), upd_ne (by omega), show 21 + 5 * nT σ + 1 = 22 + 5 * nT σ by omega, upd_eq, nI_clamp h2]
  · rw [upd_ne (by omega), upd_ne (by omega), upd_ne (by omega), show 21 + 5 * nT σ + 2 = 23 + 5 * nT σ by omega, upd_eq, nI_clamp h3]
  · rw [upd_ne (by omega), upd_ne (by omega), show 21 + 5 * nT σ + 3 = 24 + 5 * nT σ by omega, upd_eq, nI_clamp h4]
  · rw [upd_ne (by omega), show 21 + 5 * nT σ + 4 = 25 + 5 * nT σ by omega, upd_eq, nI_clamp z]
theorem sTell_new {σ : Nat → Int32} {te kd a b i : Nat} (h1 : te < 2147483648) (h2 : kd < 2147483648) (h3 : a < 2147483648) (h4 : b < 2147483648) (hi : i < 5) : sTell σ te kd a b (21 + 5 * nT σ + i) = nI (rk (sTell σ te kd a b) (nT σ) i) := by
  obtain ⟨e0, e1, e2, e3, e4⟩ := rk_told (σ := σ) h1 h2 h3 h4
  rcases (show i = 0 ∨ i = 1 ∨ i = 2 ∨ i = 3 ∨ i = 4 by omega) with rfl | rfl | rfl | rfl | rfl
  · rw [e0]; unfold sTell; rw [upd_ne (by omega), upd_ne (by omega), upd_ne (by omega), upd_ne (by omega), upd_ne (by omega), show 21 + 5 * nT σ + 0 = 21 + 5 * nT σ by omega, upd_eq]
  · rw [e1]; unfold sTell; rw [upd_ne (by omega), upd_ne (by omega), upd_ne (by omega), upd_ne (by omega), show 21 + 5 * nT σ + 1 = 22 + 5 * nT σ by omega, upd_eq]
  · rw [e2]; unfold sTell; rw [upd_ne (by omega), upd_ne (by omega), upd_ne (by omega), show 21 + 5 * nT σ + 2 = 23 + 5 * nT σ by omega, upd_eq]
  · rw [e3]; unfold sTell; rw [upd_ne (by omega), upd_ne (by omega), show 21 + 5 * nT σ + 3 = 24 + 5 * nT σ by omega, upd_eq]
  · rw [e4]; unfold sTell; rw [upd_ne (by omega), show 21 + 5 * nT σ + 4 = 25 + 5 * nT σ by omega, upd_eq]
theorem Good_tell {σ : Nat → Int32} {te kd a b : Nat} (H : Good σ) (hk : nT σ < 20) (ht : te < nB σ) (ho : okk (nB σ) kd a b) : Good (sTell σ te kd a b) := by
  obtain ⟨⟨g1, g2, g3⟩, ⟨g4, g5⟩, g6, g7, g8⟩ := H
  obtain ⟨o1, o2, o3⟩ := ho.lt g3
  have eT := nT_tell (σ := σ) (te := te) (kd := kd) (a := a) (b := b) g5
  have eB := nB_tell (σ := σ) (te := te) (kd := kd) (a := a) (b := b)
  refine ⟨⟨?_, by omega, by omega⟩, ⟨?_, by omega⟩, fun p hp => ?_, fun p hp => ?_, fun r hr => ?_⟩
  · rw [eB, sTell_o (by omega) (by omega)]; exact g1
  · rw [eT]; unfold sTell; rw [upd_eq]
  · rw [eB] at hp
    rw [lkf_tell (by omega), eB, sTell_o (by omega) (by omega)]; exact g6 p hp
  · rw [sTell_o (by omega) (by omega)]; exact g7 p hp
  · rw [eT] at hr
    by_cases q : r = nT σ
    · subst q
      obtain ⟨e0, e1, e2, e3, e4⟩ := rk_told (σ := σ) (te := te) (kd := kd) (a := a) (b := b) (by omega) (by omega) (by omega) (by omega)
      refine ⟨fun i hi => sTell_new (by omega) (by omega) (by omega) (by omega) hi, by rw [e0, eB]; exact ht, by rw [e1, e2, e3, eB]; exact ho, by rw [e4]; omega⟩
    · obtain ⟨a1, a2, a3, a4⟩ := g8 r (by omega)
      refine ⟨fun i hi => ?_, ?_, ?_, ?_⟩
      · rw [sTell_o (by omega) (by omega), rk_tell (by omega) hi]; exact a1 i hi
      · rw [rk_tell (by omega) (by omega), eB]; exact a2
      · rw [rk_tell (by omega) (by omega), rk_tell (by omega) (by omega), rk_tell (by omega) (by omega), eB]; exact a3
      · rw [rk_tell (by omega) (by omega)]; exact a4
