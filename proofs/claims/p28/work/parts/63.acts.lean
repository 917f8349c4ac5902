/-! the law: its rows show the object's state -/
def RS (σ fl fsc fgu fr fq : Nat → Int32) : Prop := (fq 0 = nI (nB σ) ∧ fq 1 = nI (nT σ) ∧ fq 2 = σ 2) ∧ (∀ p, p < nB σ → fl p = nI (lkf σ p)) ∧ (∀ p, p < nB σ → fsc p = σ (9 + p)) ∧ (∀ p, p < nB σ → fgu p = σ (15 + p)) ∧ LR σ fr
def JJ (g : fG) (ct : Nat → va_E) : Prop := ∃ (σ : Nat → Int32) (k : Nat) (hs : Nat → Nat → Int32) (u1 : Bool) (s1 : Nat → Int32) (u2 : Bool) (s2 : Nat → Int32) (t : Nat → Nat) (len : Nat) (fl fsc fgu fr fq fw fc : Nat → Int32), OGAt g ct σ k hs u1 s1 u2 s2 t len ∧ nT σ ≤ 12 ∧ RWS g ct fl fsc fgu fr fq ∧ RS σ fl fsc fgu fr fq ∧ ct 244 = .inl (fcI g, 6, .inl fw) ∧ ct 245 = .inl (fcI g, 51, .inl fc)
theorem OGc_yes {g : fG} {ct : Nat → va_E} {c : Prop} [Decidable c] {τ σ : Nat → Int32} {k : Nat} {hs : Nat → Nat → Int32} {u1 : Bool} {s1 : Nat → Int32} {u2 : Bool} {s2 : Nat → Int32} {t : Nat → Nat} {len : Nat} (hc : c) (H : OGc g ct c τ σ k hs u1 s1 u2 s2 t len) : OGAt g ct τ (min (k + 1) 6) (recH σ hs) u1 s1 u2 s2 t len := by
  unfold OGc at H; rw [if_pos hc, if_pos hc, if_pos hc] at H; exact H
theorem OGc_no {g : fG} {ct : Nat → va_E} {c : Prop} [Decidable c] {τ σ : Nat → Int32} {k : Nat} {hs : Nat → Nat → Int32} {u1 : Bool} {s1 : Nat → Int32} {u2 : Bool} {s2 : Nat → Int32} {t : Nat → Nat} {len : Nat} (hc : ¬ c) (H : OGc g ct c τ σ k hs u1 s1 u2 s2 t len) : OGAt g ct σ k hs u1 s1 u2 s2 t len := by
  unfold OGc at H; rw [if_neg hc, if_neg hc, if_neg hc] at H; exact H
theorem hb_out {σ : Nat → Int32} {r : Nat} (h : nT σ = 0) : ¬ hrx σ (nI r) := fun z => by have h1 := z.1; have h2 := z.2; rw [h] at h2; omega
theorem LR_how {σ fr : Nat → Int32} {r0 z : Nat} (hz : z < 2147483648) (H : LR σ fr) : LR (upd σ (25 + 5 * r0) (nI z)) (upd fr (5 * r0 + 4) (nI z)) := fun r i hr hi => by
  rw [nT_upd (by omega)] at hr
  by_cases e : r = r0 ∧ i = 4
  · obtain ⟨rfl, rfl⟩ := e
    have e3 : rk (upd σ (25 + 5 * r) (nI z)) r 4 = z := by unfold rk; rw [show 21 + 5 * r + 4 = 25 + 5 * r by omega, upd_eq, nI_clamp hz]
    rw [upd_eq, e3]
  · rw [upd_ne (by omega), rk_upd (by omega)]; exact H r i hr hi
theorem lkf_how {σ : Nat → Int32} {r0 : Nat} {x : Int32} : lkf (upd σ (25 + 5 * r0) x) = lkf σ := lkf_fn (fun p hp => upd_ne (by omega))
theorem RS_how {σ fl fsc fgu fr fq : Nat → Int32} {r0 z : Nat} (hn6 : nB σ ≤ 6) (hz : z < 2147483648) (H : RS σ fl fsc fgu fr fq) : RS (upd σ (25 + 5 * r0) (nI z)) fl fsc fgu (upd fr (5 * r0 + 4) (nI z)) fq := by
  obtain ⟨⟨a, b, c⟩, d, e, f, h⟩ := H
  have eB : nB (upd σ (25 + 5 * r0) (nI z)) = nB σ := nB_upd (by omega)
  have eT : nT (upd σ (25 + 5 * r0) (nI z)) = nT σ := nT_upd (by omega)
  refine ⟨⟨by rw [eB]; exact a, by rw [eT]; exact b, by rw [upd_ne (by omega)]; exact c⟩, fun p hp => ?_, fun p hp => ?_, fun p hp => ?_, LR_how hz h⟩
  · rw [eB] at hp; rw [lkf_how]; exact d p hp
  · rw [eB] at hp; rw [upd_ne (by omega)]; exact e p hp
  · rw [eB] at hp; rw [upd_ne (by omega)]; exact f p hp
theorem RS_tell {σ fl fsc fgu fr fq : Nat → Int32} {te kd a0 b0 : Nat} (hG : Good σ) (h12 : nT σ < 12) (h1 : te < 2147483648) (h2 : kd < 2147483648) (h3 : a0 < 2147483648) (h4 : b0 < 2147483648) (H : RS σ fl fsc fgu fr fq) : RS (sTell σ te kd a0 b0) fl fsc fgu (upd (upd (upd (upd (upd fr (5 * nT σ) (nI te)) (5 * nT σ + 1) (nI kd)) (5 * nT σ + 2) (nI a0)) (5 * nT σ + 3) (nI b0)) (5 * nT σ + 4) (nI 0)) (upd fq 1 (nI (nT σ + 1))) := by
  have h6 := hG.n6
  obtain ⟨⟨a, b, c⟩, d, e, f, h⟩ := H
  have eB := nB_tell (σ := σ) (te := te) (kd := kd) (a := a0) (b := b0)
  have eT := nT_tell (σ := σ) (te := te) (kd := kd) (a := a0) (b := b0) hG.k
  refine ⟨⟨by rw [eB, upd_ne (by omega)]; exact a, by rw [eT, upd_eq], by rw [upd_ne (by omega), sTell_o (by omega) (by omega)]; exact c⟩, fun p hp => ?_, fun p hp => ?_, fun p hp => ?_, fun r i hr hi => ?_⟩
  · rw [eB] at hp; rw [lkf_tell (by omega)]; exact d p hp
  · rw [eB] at hp; rw [sTell_o (by omega) (by omega)]; exact e p hp
  · rw [eB] at hp; rw [sTell_o (by omega) (by omega)]; exact f p hp
  · rw [eT] at hr
    by_cases q : r = nT σ
    · subst q
      obtain ⟨e0, e1, e2, e3, e4⟩ := rk_told (σ := σ) h1 h2 h3 h4
      rcases (show i = 0 ∨ i = 1 ∨ i = 2 ∨ i = 3 ∨ i = 4 by omega) with rfl | rfl | rfl | rfl | rfl
      · rw [e0, upd_ne (by omega), upd_ne (by omega), upd_ne (by omega), upd_ne (by omega), show 5 * nT σ + 0 = 5 * nT σ by omega, upd_eq]
      · rw [e1, upd_ne (by omega), upd_ne (by omega), upd_ne (by omega), upd_eq]
      · rw [e2, upd_ne (by omega), upd_ne (by omega), upd_eq]
      · rw [e3, upd_ne (by omega), upd_eq]
      · rw [e4, upd_eq]
    · rw [upd_ne (by omega), upd_ne (by omega), upd_ne (by omega), upd_ne (by omega), upd_ne (by omega), rk_tell (by omega) hi]
      exact h r i (by omega) hi
theorem RS_look {σ fl fsc fgu fr fq : Nat → Int32} {p0 b0 : Nat} (hG : Good σ) (hp0 : p0 < nB σ) (hb : b0 < 2147483648) (H : RS σ fl fsc fgu fr fq) : RS (upd σ (3 + p0) (nI b0)) (upd fl p0 (nI b0)) fsc fgu fr fq := by
  have h6 := hG.n6
  obtain ⟨⟨a, b, c⟩, d, e, f, h⟩ := H
  have eB : nB (upd σ (3 + p0) (nI b0)) = nB σ := nB_upd (by omega)
  have eT : nT (upd σ (3 + p0) (nI b0)) = nT σ := nT_upd (by omega)
  refine ⟨⟨by rw [eB]; exact a, by rw [eT]; exact b, by rw [upd_ne (by omega)]; exact c⟩, fun p hp => ?_, fun p hp => ?_, fun p hp => ?_, fun r i hr hi => ?_⟩
  · rw [eB] at hp
    by_cases z : p = p0
    · subst z
      have e3 : lkf (upd σ (3 + p) (nI b0)) p = b0 := by unfold lkf; rw [if_pos (by omega), upd_eq, nI_clamp hb]
      rw [upd_eq, e3]
    · rw [upd_ne z, lkf_upd (by omega)]; exact d p hp
  · rw [eB] at hp; rw [upd_ne (by omega)]; exact e p hp
  · rw [eB] at hp; rw [upd_ne (by omega)]; exact f p hp
  · rw [eT] at hr
    rw [rk_upd (by omega)]; exact h r i hr hi
theorem RS_guess {σ fl fsc fgu fr fq : Nat → Int32} {p0 : Nat} {v : Int32} (hG : Good σ) (hp0 : p0 < nB σ) (H : RS σ fl fsc fgu fr fq) : RS (upd (upd σ (9 + p0) v) (15 + p0) (nI 1)) fl (upd fsc p0 v) (upd fgu p0 (nI 1)) fr fq := by
  have h6 := hG.n6
  obtain ⟨⟨a, b, c⟩, d, e, f, h⟩ := H
  have eB : nB (upd (upd σ (9 + p0) v) (15 + p0) (nI 1)) = nB σ := (nB_upd (by omega)).trans (nB_upd (by omega))
  have eT : nT (upd (upd σ (9 + p0) v) (15 + p0) (nI 1)) = nT σ := (nT_upd (by omega)).trans (nT_upd (by omega))
  refine ⟨⟨by rw [eB]; exact a, by rw [eT]; exact b, by rw [upd_ne (by omega), upd_ne (by omega)]; exact c⟩, fun p hp => ?_, fun p hp => ?_, fun p hp => ?_, fun r i hr hi => ?_⟩
  · rw [eB] at hp; rw [lkf_upd (by omega), lkf_upd (by omega)]; exact d p hp
  · rw [eB] at hp
    rw [upd_ne (show 9 + p ≠ 15 + p0 by omega)]
    by_cases z : p = p0
    · subst z; rw [upd_eq, upd_eq]
    · rw [upd_ne z, upd_ne (by omega)]; exact e p hp
  · rw [eB] at hp
    by_cases z : p = p0
    · subst z; rw [upd_eq, upd_eq]
    · rw [upd_ne z, upd_ne (by omega), upd_ne (by omega)]; exact f p hp
  · rw [eT] at hr
    rw [rk_upd (by omega), rk_upd (by omega)]; exact h r i hr hi
theorem RS_guess0 {σ fl fsc fgu fr fq : Nat → Int32} {p0 : Nat} (hG : Good σ) (hp0 : p0 < nB σ) (hne : ¬ σ (15 + p0) = 0) (H : RS σ fl fsc fgu fr fq) : RS σ fl fsc (upd fgu p0 (nI 1)) fr fq := by
  have h6 := hG.n6
  obtain ⟨a, d, e, f, h⟩ := H
  refine ⟨a, d, e, fun p hp => ?_, h⟩
  by_cases z : p = p0
  · subst z
    rw [upd_eq]
    exact ((hG.2.2.2.1 p (by omega)).resolve_left hne).symm
  · rw [upd_ne z]; exact f p hp
theorem LR_rev {σ fr : Nat → Int32} {k : Nat} (H : LR (sRev σ k) fr) (h : rk σ k 4 = 0) : LR (sRev σ (k + 1)) (upd fr (5 * k + 4) (nI (if hdr σ (lkf σ) k = true then 1 else 2))) := by
  have e : sRev σ (k + 1) = upd (sRev σ k) (25 + 5 * k) (nI (if hdr σ (lkf σ) k = true then 1 else 2)) := if_pos h
  rw [e]
  exact LR_how (by split <;> omega) H
theorem LR_rev0 {σ fr : Nat → Int32} {k : Nat} (H : LR (sRev σ k) fr) (h : ¬ rk σ k 4 = 0) : LR (sRev σ (k + 1)) fr := by
  have e : sRev σ (k + 1) = sRev σ k := if_neg h
  rw [e]; exact H
theorem hdr_rev {σ : Nat → Int32} {k : Nat} {w : Nat → Nat} {r : Nat} : hdr (sRev σ k) w r = hdr σ w r := by
  unfold hdr; rw [nB_rev, rk_rev σ (by omega), rk_rev σ (by omega), rk_rev σ (by omega)]
theorem RS_rev {σ fl fsc fgu fr fr1 fq : Nat → Int32} (hn6 : nB σ ≤ 6) (hL : LR (sRev σ (nT σ)) fr1) (H : RS σ fl fsc fgu fr fq) : RS (sRev σ (nT σ)) fl fsc fgu fr1 fq := by
  obtain ⟨⟨a, b, c⟩, d, e, f, h⟩ := H
  have eB := nB_rev σ (nT σ)
  have eT := nT_rev σ (nT σ)
  refine ⟨⟨by rw [eB]; exact a, by rw [eT]; exact b, by rw [sRev_o σ (fun r _ => by omega)]; exact c⟩, fun p hp => ?_, fun p hp => ?_, fun p hp => ?_, hL⟩
  · rw [eB] at hp; rw [lkf_rev]; exact d p hp
  · rw [eB] at hp; rw [sRev_o σ (fun r _ => by omega)]; exact e p hp
  · rw [eB] at hp; rw [sRev_o σ (fun r _ => by omega)]; exact f p hp
theorem RS_end {σ fl fsc fgu fr fq fsc1 fgu1 : Nat → Int32} (hG : Good σ) (hs : ∀ p, p < nB σ → fsc1 p = sSc σ (nT σ) (9 + p)) (hg : ∀ p, p < 6 → fgu1 p = nI 0) (H : RS σ fl fsc fgu fr fq) : RS (sEnd σ) fl fsc1 fgu1 fr (upd (upd fq 1 (nI 0)) 2 (σ 2 + 1)) := by
  have h6 := hG.n6
  obtain ⟨⟨a, b, c⟩, d, e, f, h⟩ := H
  have eB := nB_end hG
  have eT := nT_end σ
  refine ⟨⟨by rw [eB, upd_ne (by omega), upd_ne (by omega)]; exact a, by rw [eT, upd_ne (by omega), upd_eq], by rw [upd_eq]; rfl⟩, fun p hp => ?_, fun p hp => ?_, fun p hp => ?_, fun r i hr hi => absurd hr (by omega)⟩
  · rw [eB] at hp; rw [lkf_end hG]; exact d p hp
  · rw [eB] at hp; rw [sEnd_o (by omega) (by omega) (by omega)]; exact hs p hp
  · rw [eB] at hp
    rw [hg p (by omega)]
    unfold sEnd; rw [if_neg (by omega), if_neg (by omega), if_pos (by omega)]
theorem sSc_s {σ f : Nat → Int32} {k : Nat} (hG : Good σ) (hk : k < nT σ) (H : ∀ p, p < nB σ → f p = sSc σ k (9 + p)) : ∀ p, p < nB σ → upd f (rk σ k 0) (f (rk σ k 0) + (if hdr σ (lkf σ) k = true then nI 1 else -1)) p = sSc σ (k + 1) (9 + p) := by
  have h1 := (hG.r hk).2.1
  have h6 := hG.n6
  intro p hp
  have e : sSc σ (k + 1) = upd (sSc σ k) (9 + rk σ k 0) (sSc σ k (9 + rk σ k 0) + (if hdr σ (lkf σ) k = true then nI 1 else -1)) := rfl
  rw [e]
  by_cases z : p = rk σ k 0
  · subst z; rw [upd_eq, upd_eq, H _ hp]
  · rw [upd_ne z, upd_ne (by omega)]; exact H p hp
theorem so_ex {b : Nat} (h : b < 2) : ∃ so : Bool, nI b = bI (so = true) := by
  rcases (show b = 0 ∨ b = 1 by omega) with rfl | rfl
  · exact ⟨false, bI_f (by decide)⟩
  · exact ⟨true, bI_t rfl⟩
theorem md_ex {n p d : Nat} (hp : p < n) (hd : d < n - 1) : ∃ q, q < n ∧ q ≠ p ∧ (p + 1 + d) % n = q := by
  refine ⟨_, Nat.mod_lt _ (by omega), ?_, rfl⟩
  rcases Nat.lt_or_ge (p + 1 + d) n with h | h
  · rw [Nat.mod_eq_of_lt h]; omega
  · rw [Nat.mod_eq_sub_mod h, Nat.mod_eq_of_lt (by omega)]; omega
theorem howv_le (so : Bool) : howv so ≤ 2 := by unfold howv; split <;> omega
theorem RS_open {n5 : Nat} {fl : Nat → Int32} (h3 : 3 ≤ n5) (h6 : n5 ≤ 6) (hl : ∀ p, p < n5 → fl p = nI ((p + 1) % n5)) : RS (sOpen n5) fl (fun _ => 0) (fun _ => 0) (fun _ => 0) (upd (fun _ => 0) 0 (nI n5)) := by
  have eB := nB_open (n := n5) (by omega)
  have eT := nT_open n5
  have z : ∀ i, i ≠ 0 → (i < 3 ∨ 3 + n5 ≤ i) → (0 : Int32) = sOpen n5 i := fun i h0 h1 => (sOpen_z h0 h1).symm
  refine ⟨⟨by rw [eB, upd_eq], by rw [eT, upd_ne (by omega)]; rfl, by rw [upd_ne (by omega)]; exact z 2 (by omega) (by omega)⟩, fun p hp => ?_, fun p hp => ?_, fun p hp => ?_, fun r i hr hi => absurd hr (by omega)⟩
  · rw [eB] at hp; rw [lkf_open h6 hp]; exact hl p hp
  · rw [eB] at hp; exact z _ (by omega) (by omega)
  · rw [eB] at hp; exact z _ (by omega) (by omega)
