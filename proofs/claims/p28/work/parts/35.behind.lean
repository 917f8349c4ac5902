/-! how a good row stays good -/
theorem Good_of {σ τ : Nat → Int32} (H : Good σ) (h0 : τ 0 = σ 0) (h1 : τ 1 = σ 1) (hl : ∀ p, p < 6 → τ (3 + p) = σ (3 + p)) (hg : ∀ p, p < 6 → τ (15 + p) = nI 0 ∨ τ (15 + p) = nI 1) (hr : ∀ r i, r < nT σ → i < 4 → τ (21 + 5 * r + i) = σ (21 + 5 * r + i)) (h4 : ∀ r, r < nT σ → τ (21 + 5 * r + 4) = nI (rk τ r 4) ∧ rk τ r 4 ≤ 2) : Good τ := by
  have eB : nB τ = nB σ := by unfold nB; rw [h0]
  have eT : nT τ = nT σ := by unfold nT; rw [h1]
  have eL : lkf τ = lkf σ := lkf_fn hl
  refine ⟨⟨by rw [h0, eB]; exact H.1.1, by rw [eB]; exact H.1.2.1, by rw [eB]; exact H.1.2.2⟩, ⟨by rw [h1, eT]; exact H.2.1.1, by rw [eT]; exact H.2.1.2⟩, fun p hp => ?_, hg, fun r hr0 => ?_⟩
  · rw [eB] at hp ⊢
    have h6 := H.n6
    rw [eL, hl p (by omega)]; exact H.2.2.1 p hp
  · rw [eT] at hr0
    obtain ⟨a, b, c, d⟩ := H.r hr0
    have ek : ∀ i, i < 4 → rk τ r i = rk σ r i := fun i hi => by unfold rk; rw [hr r i hr0 hi]
    refine ⟨fun i hi => ?_, by rw [ek 0 (by omega), eB]; exact b, by rw [ek 1 (by omega), ek 2 (by omega), ek 3 (by omega), eB]; exact c, (h4 r hr0).2⟩
    by_cases z : i = 4
    · subst z; exact (h4 r hr0).1
    · rw [hr r i hr0 (by omega), ek i (by omega)]; exact a i hi
theorem Good.how4 {σ : Nat → Int32} (H : Good σ) {r : Nat} (hr : r < nT σ) : σ (21 + 5 * r + 4) = nI (rk σ r 4) ∧ rk σ r 4 ≤ 2 := ⟨(H.r hr).1 4 (by omega), (H.r hr).2.2.2⟩
theorem Good_score {σ : Nat → Int32} {q : Nat} {x : Int32} (H : Good σ) (hq : q < 6) : Good (upd σ (9 + q) x) := by
  refine Good_of H (upd_ne (by omega)) (upd_ne (by omega)) (fun p hp => upd_ne (by omega)) (fun p hp => by rw [upd_ne (by omega)]; exact H.2.2.2.1 p hp) (fun r i _ _ => upd_ne (by omega)) (fun r hr => ?_)
  rw [upd_ne (by omega), rk_upd (by omega)]; exact H.how4 hr
theorem Good_guess {σ : Nat → Int32} {q : Nat} (H : Good σ) (hq : q < 6) : Good (upd σ (15 + q) (nI 1)) := by
  refine Good_of H (upd_ne (by omega)) (upd_ne (by omega)) (fun p hp => upd_ne (by omega)) (fun p hp => ?_) (fun r i _ _ => upd_ne (by omega)) (fun r hr => ?_)
  · by_cases z : p = q
    · subst z; rw [upd_eq]; exact Or.inr rfl
    · rw [upd_ne (by omega)]; exact H.2.2.2.1 p hp
  · rw [upd_ne (by omega), rk_upd (by omega)]; exact H.how4 hr
theorem Good_how {σ : Nat → Int32} {q z : Nat} (H : Good σ) (hz : z ≤ 2) : Good (upd σ (25 + 5 * q) (nI z)) := by
  refine Good_of H (upd_ne (by omega)) (upd_ne (by omega)) (fun p hp => upd_ne (by omega)) (fun p hp => by rw [upd_ne (by omega)]; exact H.2.2.2.1 p hp) (fun r i _ _ => upd_ne (by omega)) (fun r hr => ?_)
  by_cases e : r = q
  · subst e
    have e2 : upd σ (25 + 5 * r) (nI z) (21 + 5 * r + 4) = nI z := by rw [show 21 + 5 * r + 4 = 25 + 5 * r by omega, upd_eq]
    have e3 : rk (upd σ (25 + 5 * r) (nI z)) r 4 = z := by unfold rk; rw [e2, nI_clamp (by omega)]
    rw [e2, e3]; exact ⟨rfl, hz⟩
  · rw [upd_ne (by omega), rk_upd (by omega)]; exact H.how4 hr
theorem Good_look {σ : Nat → Int32} {q b : Nat} (H : Good σ) (hq : q < nB σ) (hb : b < nB σ) (hne : q ≠ b) : Good (upd σ (3 + q) (nI b)) := by
  have h6 := H.n6
  have eB : nB (upd σ (3 + q) (nI b)) = nB σ := nB_upd (by omega)
  have eT : nT (upd σ (3 + q) (nI b)) = nT σ := nT_upd (by omega)
  refine ⟨by rw [eB, upd_ne (by omega)]; exact H.1, by rw [eT, upd_ne (by omega)]; exact H.2.1, fun p hp => ?_, fun p hp => by rw [upd_ne (by omega)]; exact H.2.2.2.1 p hp, fun r hr => ?_⟩
  · rw [eB] at hp ⊢
    by_cases z : p = q
    · subst z
      have e : lkf (upd σ (3 + p) (nI b)) p = b := by unfold lkf; rw [if_pos (by omega), upd_eq, nI_clamp (by omega)]
      rw [e, upd_eq]; exact ⟨rfl, hb, Ne.symm hne⟩
    · rw [lkf_upd (by omega), upd_ne (by omega)]; exact H.2.2.1 p hp
  · rw [eT] at hr
    obtain ⟨a, b2, c, d⟩ := H.r hr
    have ek : ∀ i, rk (upd σ (3 + q) (nI b)) r i = rk σ r i := fun i => rk_upd (by omega)
    refine ⟨fun i hi => by rw [upd_ne (by omega), ek]; exact a i hi, by rw [ek, eB]; exact b2, by rw [ek, ek, ek, eB]; exact c, by rw [ek]; exact d⟩
/-! the whole object: the house at 1, the history at 26, slots at 178 and 204, the pad at 230, the survey at 232 -/
def SlotAt (g : fG) (ct : Nat → va_E) (s : Nat) (u : Bool) (σ : Nat → Int32) : Prop := ct s = .inr (4, [.ref (fa g (s + 1)), .int (if u = true then nI 1 else nI 0)]) ∧ HouseSh g ct (s + 1) ∧ (u = true → HouseAt g ct (s + 1) σ ∧ Good σ)
theorem SlotAt.keep {g : fG} {ct ct1 : Nat → va_E} {s : Nat} {u : Bool} {σ : Nat → Int32} (H : SlotAt g ct s u σ) (h : ∀ j, s ≤ j → j < s + 26 → ct1 j = ct j) : SlotAt g ct1 s u σ :=
  ⟨(h _ (by omega) (by omega)).trans H.1, H.2.1.keep (fun j h1 h2 => h j (by omega) (by omega)), fun hu => ⟨(H.2.2 hu).1.keep (fun j h1 h2 => h j (by omega) (by omega)), (H.2.2 hu).2⟩⟩
theorem SurvSh.keep {g : fG} {ct ct1 : Nat → va_E} {v : Nat} (H : SurvSh g ct v) (h : ∀ j, v ≤ j → j < v + 7 → ct1 j = ct j) : SurvSh g ct1 v := by
  obtain ⟨⟨a1, a2, a3, a⟩, ⟨b1, b⟩, ⟨c1, c⟩, ⟨d1, d⟩, ⟨⟨e1, e⟩, ⟨f1, f⟩⟩, ⟨g1, g2, g3, g4, g5, g6⟩⟩ := H
  exact ⟨⟨a1, a2, a3, (h _ (by omega) (by omega)).trans a⟩, ⟨b1, (h _ (by omega) (by omega)).trans b⟩, ⟨c1, (h _ (by omega) (by omega)).trans c⟩, ⟨d1, (h _ (by omega) (by omega)).trans d⟩, ⟨⟨e1, (h _ (by omega) (by omega)).trans e⟩, ⟨f1, (h _ (by omega) (by omega)).trans f⟩⟩, ⟨g1, g2, g3, g4, g5, (h _ (by omega) (by omega)).trans g6⟩⟩
def OGx (g : fG) (ct : Nat → va_E) (sv : Int32) (σ : Nat → Int32) (k : Nat) (hs : Nat → Nat → Int32) (u1 : Bool) (s1 : Nat → Int32) (u2 : Bool) (s2 : Nat → Int32) (t : Nat → Nat) (len : Nat) : Prop :=
  ct 0 = .inr (7, [.ref (fa g 1), .ref (fa g 26), .ref (fa g 178), .ref (fa g 204), .ref (fa g 230), .ref (fa g 232), .int sv]) ∧ HouseAt g ct 1 σ ∧ Good σ ∧ HistAt g ct k hs ∧ SlotAt g ct 178 u1 s1 ∧ SlotAt g ct 204 u2 s2 ∧ PadAt g ct 230 t len ∧ SurvSh g ct 232
section OGS
variable {g : fG} {ct ct1 : Nat → va_E} {sv sv1 : Int32} {σ τ : Nat → Int32} {k k1 : Nat} {hs hs1 : Nat → Nat → Int32} {u1 u2 v1 : Bool} {s1 s2 z1 : Nat → Int32} {t t1 : Nat → Nat} {len len1 : Nat}
theorem OGx.house (H : OGx g ct sv σ k hs u1 s1 u2 s2 t len) (h : HouseAt g ct1 1 τ) (hG : Good τ) (e : fSame 1 26 ct ct1) : OGx g ct1 sv τ k hs u1 s1 u2 s2 t len := by
  obtain ⟨a, b, c, d, x, y, z, w⟩ := H
  exact ⟨(e _ (by omega)).trans a, h, hG, d.keep (fun j h1 h2 => e j (by omega)), x.keep (fun j h1 h2 => e j (by omega)), y.keep (fun j h1 h2 => e j (by omega)), z.keep (e _ (by omega)) (e _ (by omega)), w.keep (fun j h1 h2 => e j (by omega))⟩
theorem OGx.hist (H : OGx g ct sv σ k hs u1 s1 u2 s2 t len) (h : HistAt g ct1 k1 hs1) (e : fSame 26 178 ct ct1) : OGx g ct1 sv σ k1 hs1 u1 s1 u2 s2 t len := by
  obtain ⟨a, b, c, d, x, y, z, w⟩ := H
  exact ⟨(e _ (by omega)).trans a, b.keep (fun j h1 h2 => e j (by omega)), c, h, x.keep (fun j h1 h2 => e j (by omega)), y.keep (fun j h1 h2 => e j (by omega)), z.keep (e _ (by omega)) (e _ (by omega)), w.keep (fun j h1 h2 => e j (by omega))⟩
theorem OGx.both (H : OGx g ct sv σ k hs u1 s1 u2 s2 t len) (b : HouseAt g ct1 1 τ) (c : Good τ) (h : HistAt g ct1 k1 hs1) (e : fSame 1 178 ct ct1) : OGx g ct1 sv τ k1 hs1 u1 s1 u2 s2 t len := by
  obtain ⟨a, _, _, d, x, y, z, w⟩ := H
  exact ⟨(e _ (by omega)).trans a, b, c, h, x.keep (fun j h1 h2 => e j (by omega)), y.keep (fun j h1 h2 => e j (by omega)), z.keep (e _ (by omega)) (e _ (by omega)), w.keep (fun j h1 h2 => e j (by omega))⟩
theorem OGx.x (H : OGx g ct sv σ k hs u1 s1 u2 s2 t len) (h : ct1 0 = .inr (7, [.ref (fa g 1), .ref (fa g 26), .ref (fa g 178), .ref (fa g 204), .ref (fa g 230), .ref (fa g 232), .int sv1])) (e : fSame 0 1 ct ct1) : OGx g ct1 sv1 σ k hs u1 s1 u2 s2 t len := by
  obtain ⟨a, b, c, d, x, y, z, w⟩ := H
  exact ⟨h, b.keep (fun j h1 h2 => e j (by omega)), c, d.keep (fun j h1 h2 => e j (by omega)), x.keep (fun j h1 h2 => e j (by omega)), y.keep (fun j h1 h2 => e j (by omega)), z.keep (e _ (by omega)) (e _ (by omega)), w.keep (fun j h1 h2 => e j (by omega))⟩
theorem OGx.slot1 (H : OGx g ct sv σ k hs u1 s1 u2 s2 t len) (h : SlotAt g ct1 178 v1 z1) (e : fSame 178 204 ct ct1) : OGx g ct1 sv σ k hs v1 z1 u2 s2 t len := by
  obtain ⟨a, b, c, d, x, y, z, w⟩ := H
  exact ⟨(e _ (by omega)).trans a, b.keep (fun j h1 h2 => e j (by omega)), c, d.keep (fun j h1 h2 => e j (by omega)), h, y.keep (fun j h1 h2 => e j (by omega)), z.keep (e _ (by omega)) (e _ (by omega)), w.keep (fun j h1 h2 => e j (by omega))⟩
theorem OGx.slot2 (H : OGx g ct sv σ k hs u1 s1 u2 s2 t len) (h : SlotAt g ct1 204 v1 z1) (e : fSame 204 230 ct ct1) : OGx g ct1 sv σ k hs u1 s1 v1 z1 t len := by
  obtain ⟨a, b, c, d, x, y, z, w⟩ := H
  exact ⟨(e _ (by omega)).trans a, b.keep (fun j h1 h2 => e j (by omega)), c, d.keep (fun j h1 h2 => e j (by omega)), x.keep (fun j h1 h2 => e j (by omega)), h, z.keep (e _ (by omega)) (e _ (by omega)), w.keep (fun j h1 h2 => e j (by omega))⟩
theorem OGx.pad (H : OGx g ct sv σ k hs u1 s1 u2 s2 t len) (h : PadAt g ct1 230 t1 len1) (e : fSame 230 232 ct ct1) : OGx g ct1 sv σ k hs u1 s1 u2 s2 t1 len1 := by
  obtain ⟨a, b, c, d, x, y, z, w⟩ := H
  exact ⟨(e _ (by omega)).trans a, b.keep (fun j h1 h2 => e j (by omega)), c, d.keep (fun j h1 h2 => e j (by omega)), x.keep (fun j h1 h2 => e j (by omega)), y.keep (fun j h1 h2 => e j (by omega)), h, w.keep (fun j h1 h2 => e j (by omega))⟩
theorem OGx.surv (H : OGx g ct sv σ k hs u1 s1 u2 s2 t len) (h : SurvSh g ct1 232) (e : fSame 232 239 ct ct1) : OGx g ct1 sv σ k hs u1 s1 u2 s2 t len := by
  obtain ⟨a, b, c, d, x, y, z, w⟩ := H
  exact ⟨(e _ (by omega)).trans a, b.keep (fun j h1 h2 => e j (by omega)), c, d.keep (fun j h1 h2 => e j (by omega)), x.keep (fun j h1 h2 => e j (by omega)), y.keep (fun j h1 h2 => e j (by omega)), z.keep (e _ (by omega)) (e _ (by omega)), h⟩
def OGAt (g : fG) (ct : Nat → va_E) (σ : Nat → Int32) (k : Nat) (hs : Nat → Nat → Int32) (u1 : Bool) (s1 : Nat → Int32) (u2 : Bool) (s2 : Nat → Int32) (t : Nat → Nat) (len : Nat) : Prop :=
  ∃ sv, OGx g ct sv σ k hs u1 s1 u2 s2 t len ∧ (sv = nI 0 ∨ (sv = nI 1 ∧ SurvP g ct 232 σ (mM σ)))
theorem OGx.at0 (H : OGx g ct (nI 0) σ k hs u1 s1 u2 s2 t len) : OGAt g ct σ k hs u1 s1 u2 s2 t len := ⟨_, H, Or.inl rfl⟩
theorem OGx.at1 (H : OGx g ct (nI 1) σ k hs u1 s1 u2 s2 t len) (h : SurvP g ct 232 σ (mM σ)) : OGAt g ct σ k hs u1 s1 u2 s2 t len := ⟨_, H, Or.inr ⟨rfl, h⟩⟩
/-- after a call that changes the house if c -/
def OGc (g : fG) (ct : Nat → va_E) (c : Prop) [Decidable c] (τ σ : Nat → Int32) (k : Nat) (hs : Nat → Nat → Int32) (u1 : Bool) (s1 : Nat → Int32) (u2 : Bool) (s2 : Nat → Int32) (t : Nat → Nat) (len : Nat) : Prop :=
  OGAt g ct (if c then τ else σ) (if c then min (k + 1) 6 else k) (if c then recH σ hs else hs) u1 s1 u2 s2 t len
theorem OGc_t {c : Prop} [Decidable c] (hc : c) (H : OGAt g ct τ (min (k + 1) 6) (recH σ hs) u1 s1 u2 s2 t len) : OGc g ct c τ σ k hs u1 s1 u2 s2 t len := by unfold OGc; rw [if_pos hc, if_pos hc, if_pos hc]; exact H
theorem OGc_f {c : Prop} [Decidable c] (hc : ¬ c) (H : OGAt g ct σ k hs u1 s1 u2 s2 t len) : OGc g ct c τ σ k hs u1 s1 u2 s2 t len := by unfold OGc; rw [if_neg hc, if_neg hc, if_neg hc]; exact H
end OGS
abbrev hbx (σ : Nat → Int32) (x : Int32) : Prop := 0 ≤ x.toInt ∧ x.toInt < (nB σ : Int)
abbrev hrx (σ : Nat → Int32) (x : Int32) : Prop := 0 ≤ x.toInt ∧ x.toInt < (nT σ : Int)

set_option maxRecDepth 100000 in
set_option maxHeartbeats 4000000 in
theorem c_X7_beginChange (l : Launch) (g : fG) (N : Nat) (ct : Nat → va_E) (sv : Int32) (σ : Nat → Int32) (k : Nat) (hs : Nat → Nat → Int32) (u1 : Bool) (s1 : Nat → Int32) (u2 : Bool) (s2 : Nat → Int32) (t : Nat → Nat) (len : Nat) (hN : 239 ≤ N) (hO1 : OGx g ct sv σ k hs u1 s1 u2 s2 t len) : Met l yX7_beginChange (wsU yX7_beginChange cX7_beginChange 1 none) rX7_beginChange (fPre g N ct [.ref (fa g 0)]) (fQv g N (fun ct1 => OGx g ct1 (nI 0) σ (min (k + 1) 6) (recH σ hs) u1 s1 u2 s2 t len ∧ fSame 0 178 ct ct1)) 0 0 (fB g) := by
  refine fs_start (own := RX7) (lv0 := [(0, .ref (fa g 0))]) (by decide) rfl (Nat.le_of_ble_eq_true rfl) rfl ?_
  intro p e s m args below meth c ls E hr hlk hnm hP hl hS
  have hx := E.1.1
  have hb := E.1.2.1
  obtain ⟨o_1x, o_1H, o_1G, o_1Y, o_11, o_12, o_1P, o_1V⟩ := id (hO1)
  have o_1n3 := o_1G.n3
  have o_1n6 := o_1G.n6
  have o_1k := o_1G.k
  obtain ⟨o_1h0, ⟨o_1fl, o_1hl, o_1lw⟩, ⟨o_1fs, o_1hs, o_1sw⟩, ⟨o_1fg, o_1hg, o_1gw⟩, ⟨o_1fr, o_1hr, o_1rw⟩, o_1ru⟩ := id o_1H
  obtain ⟨o_1n, o_1nl, o_1y0, o_1k6, -, -, -⟩ := id o_1Y
  obtain ⟨⟨o_1ws, o_1mp, o_1mw, o_1v0⟩, -⟩ := id o_1V
  have o_1p0 := o_1P.1
  have o_1p60 := o_1P.2.2.1
  have o_1a0 := o_11.1
  have o_1b0 := o_12.1
  refine lv_aload_n hx hb dX7_beginChange_0 rfl (lv_at hl 0 rfl) ?_
  refine fs_get E hP (k := 0) (v := .ref (fa g 26)) 1 fc7 o_1x (by omega) (by decide) (wm wl_1 (i := 17) rfl) rfl dX7_beginChange_1 ?_
  refine lv_aload_n hx hb dX7_beginChange_4 rfl (lv_at hl 0 rfl) ?_
  refine fs_get E hP (k := 0) (v := .ref (fa g 1)) 0 fc7 o_1x (by omega) (by decide) (wm wl_1 (i := 13) rfl) rfl dX7_beginChange_5 ?_
  refine fs_v (va_runV (As := [.ref (fa g 1)]) (rest := []) E.1 (c_X0_record l g N ct k hs σ (by omega) o_1G o_1H o_1Y) (lk_RX7_278 E.1.2.2.2.2 ⟨Nat.le_of_ble_eq_true rfl, Nat.le_of_ble_eq_true rfl⟩) (fpreV E hP hS fc0 o_1y0 (by omega)) rfl rfl hl.1 rfl (lv_room (Nat.le_of_ble_eq_true rfl)) dX7_beginChange_8 ⟨Nat.zero_le _, Nat.zero_le _⟩) hS (fun ct_2 H locs p_8 hP hS => ?_)
  have og2 := OGx.hist hO1 p_8.1 p_8.2
  obtain ⟨o_3x, o_3H, o_3G, o_3Y, o_31, o_32, o_3P, o_3V⟩ := id (og2)
  have o_3n3 := o_3G.n3
  have o_3n6 := o_3G.n6
  have o_3k := o_3G.k
  obtain ⟨o_3h0, ⟨o_3fl, o_3hl, o_3lw⟩, ⟨o_3fs, o_3hs, o_3sw⟩, ⟨o_3fg, o_3hg, o_3gw⟩, ⟨o_3fr, o_3hr, o_3rw⟩, o_3ru⟩ := id o_3H
  obtain ⟨o_3n, o_3nl, o_3y0, o_3k6, -, -, -⟩ := id o_3Y
  obtain ⟨⟨o_3ws, o_3mp, o_3mw, o_3v0⟩, -⟩ := id o_3V
  have o_3p0 := o_3P.1
  have o_3p60 := o_3P.2.2.1
  have o_3a0 := o_31.1
  have o_3b0 := o_32.1
  refine lv_aload_n hx hb dX7_beginChange_11 rfl (lv_at hl 0 rfl) ?_
  refine lv_iconst (v := (nI 0)) hx hb dX7_beginChange_12 (by decide) ?_
  refine fs_put E hP hS (k := 0) 6 fc7 o_3x (by omega) (by decide) (wm wl_5 (i := 10) rfl) rfl rfl rfl rfl (Nat.le_of_ble_eq_true rfl) dX7_beginChange_13 (fun ct_4 H locs q_5 hP hS => ?_)
  have h_6 : ct_4 0 = .inr (7, [.ref (fa g 1), .ref (fa g 26), .ref (fa g 178), .ref (fa g 204), .ref (fa g 230), .ref (fa g 232), .int (nI 0)]) := by rw [q_5]; exact fu_eq _ _ _
  have h_7 : ct_4 1 = .inr (1, [.int (nI (nB σ)), .int (σ 2), .int (nI (nT σ)), .ref (fa g 2), .ref (fa g 3), .ref (fa g 4), .ref (fa g 5)]) := by rw [q_5]; exact (fu_ne (by omega)).trans o_3h0
  have h_8 : ct_4 2 = .inl (fcI g, 6, .inl o_3fl) := by rw [q_5]; exact (fu_ne (by omega)).trans o_3hl
  have h_9 : ct_4 3 = .inl (fcI g, 6, .inl o_3fs) := by rw [q_5]; exact (fu_ne (by omega)).trans o_3hs
  have h_10 : ct_4 4 = .inl (fcI g, 6, .inl o_3fg) := by rw [q_5]; exact (fu_ne (by omega)).trans o_3hg
  have h_11 : ct_4 5 = .inl (fcR g, 20, .inr (.inr (.inr (.inr o_3fr)))) := by rw [q_5]; exact (fu_ne (by omega)).trans o_3hr
  have h_12 : ct_4 26 = .inr (0, [.ref (fa g 27), .int (nI (min (k + 1) 6)), .int (nI o_3n)]) := by rw [q_5]; exact (fu_ne (by omega)).trans o_3y0
  have h_13 : ct_4 178 = .inr (4, [.ref (fa g 179), .int (if u1 = true then nI 1 else nI 0)]) := by rw [q_5]; exact (fu_ne (by omega)).trans o_3a0
  have h_14 : ct_4 204 = .inr (4, [.ref (fa g 205), .int (if u2 = true then nI 1 else nI 0)]) := by rw [q_5]; exact (fu_ne (by omega)).trans o_3b0
  have h_15 : ct_4 230 = .inr (2, [.ref (fa g 231), .int (nI len)]) := by rw [q_5]; exact (fu_ne (by omega)).trans o_3p0
  have h_16 : ct_4 232 = .inr (5, [.ref (fa g 233), .int o_3ws, .int o_3mp, .int o_3mw, .ref (fa g 235), .ref (fa g 236), .ref (fa g 237), .ref (fa g 238)]) := by rw [q_5]; exact (fu_ne (by omega)).trans o_3v0
  refine fs_vret E hr hlk hP hS dX7_beginChange_16 ?_
  exact ⟨OGx.x og2 h_6 (show fSame 0 1 _ _ from (fSame.ap fSame.rf q_5 (by omega) (by omega))), (show fSame 0 178 _ _ from (fSame.ap (fSame.tr2 fSame.rf p_8.2 (by omega) (by omega)) q_5 (by omega) (by omega)))⟩

set_option maxRecDepth 100000 in
set_option maxHeartbeats 4000000 in
theorem c_X7_surveyNow (l : Launch) (g : fG) (N : Nat) (ct : Nat → va_E) (σ : Nat → Int32) (k : Nat) (hs : Nat → Nat → Int32) (u1 : Bool) (s1 : Nat → Int32) (u2 : Bool) (s2 : Nat → Int32) (t : Nat → Nat) (len : Nat) (hN : 239 ≤ N) (hO : OGAt g ct σ k hs u1 s1 u2 s2 t len) : Met l yX7_surveyNow (wsU yX7_surveyNow cX7_surveyNow 1 (some (.object "OperaGlasses$Survey"))) rX7_surveyNow (fPre g N ct [.ref (fa g 0)]) (fQr g N (fun r ct1 => r = .ref (fa g 232) ∧ OGx g ct1 (nI 1) σ k hs u1 s1 u2 s2 t len ∧ SurvP g ct1 232 σ (mM σ) ∧ fSame 0 239 ct ct1)) 0 0 (fB g) := by
  refine fs_start (own := RX7) (lv0 := [(0, .ref (fa g 0))]) (by decide) rfl (Nat.le_of_ble_eq_true rfl) rfl ?_
  intro p e s m args below meth c ls E hr hlk hnm hP hl hS
  have hx := E.1.1
  have hb := E.1.2.1
  obtain ⟨sv, hO1, hsv⟩ := id hO
  obtain ⟨o_1x, o_1H, o_1G, o_1Y, o_11, o_12, o_1P, o_1V⟩ := id (hO1)
  have o_1n3 := o_1G.n3
  have o_1n6 := o_1G.n6
  have o_1k := o_1G.k
  obtain ⟨o_1h0, ⟨o_1fl, o_1hl, o_1lw⟩, ⟨o_1fs, o_1hs, o_1sw⟩, ⟨o_1fg, o_1hg, o_1gw⟩, ⟨o_1fr, o_1hr, o_1rw⟩, o_1ru⟩ := id o_1H
  obtain ⟨o_1n, o_1nl, o_1y0, o_1k6, -, -, -⟩ := id o_1Y
  obtain ⟨⟨o_1ws, o_1mp, o_1mw, o_1v0⟩, -⟩ := id o_1V
  have o_1p0 := o_1P.1
  have o_1p60 := o_1P.2.2.1
  have o_1a0 := o_11.1
  have o_1b0 := o_12.1
  refine lv_aload_n hx hb dX7_surveyNow_0 rfl (lv_at hl 0 rfl) ?_
  refine fs_get E hP (k := 0) (v := .int sv) 6 fc7 o_1x (by omega) (by decide) (wm wl_5 (i := 10) rfl) rfl dX7_surveyNow_1 ?_
  refine lv_if_ne (tgt := 23) hx hb dX7_surveyNow_4 (by decide) (fun c_4 => ?_) (fun c_4 => ?_)
  · have hsv1 := hsv.resolve_left (fun z => c_4 (z.trans (by decide)))
    refine lv_aload_n hx hb dX7_surveyNow_23 rfl (lv_at hl 0 rfl) ?_
    refine fs_get E hP (k := 0) (v := .ref (fa g 232)) 5 fc7 o_1x (by omega) (by decide) (wm wl_2 (i := 6) rfl) rfl dX7_surveyNow_24 ?_
    refine fs_aret E hr (Or.inr ⟨_, rfl⟩) hlk hP hS dX7_surveyNow_27 ?_
    obtain ⟨rfl, hsp⟩ := hsv1
    exact ⟨rfl, hO1, hsp, fSame.rf⟩
  · have hsv1 : sv = 0 := c_4
    refine lv_aload_n hx hb dX7_surveyNow_7 rfl (lv_at hl 0 rfl) ?_
    refine fs_get E hP (k := 0) (v := .ref (fa g 232)) 5 fc7 o_1x (by omega) (by decide) (wm wl_2 (i := 6) rfl) rfl dX7_surveyNow_8 ?_
    refine lv_aload_n hx hb dX7_surveyNow_11 rfl (lv_at hl 0 rfl) ?_
    refine fs_get E hP (k := 0) (v := .ref (fa g 1)) 0 fc7 o_1x (by omega) (by decide) (wm wl_1 (i := 13) rfl) rfl dX7_surveyNow_12 ?_
    refine fs_v (va_runV (As := [.ref (fa g 1)]) (rest := []) E.1 (c_X5_take l g N ct 232 1 σ (by omega) (by omega) (by omega) o_1G o_1H o_1V) (lk_RX7_281 E.1.2.2.2.2 ⟨Nat.le_of_ble_eq_true rfl, Nat.le_of_ble_eq_true rfl⟩) (fpreV E hP hS fc5 o_1v0 (by omega)) rfl rfl hl.1 rfl (lv_room (Nat.le_of_ble_eq_true rfl)) dX7_surveyNow_15 ⟨Nat.zero_le _, Nat.zero_le _⟩) hS (fun ct_2 H locs p_15 hP hS => ?_)
    have og2 := OGx.surv hO1 (p_15.1.sh p_15.2.1 p_15.2.2.1) p_15.2.2.2
    obtain ⟨o_3x, o_3H, o_3G, o_3Y, o_31, o_32, o_3P, o_3V⟩ := id (og2)
    have o_3n3 := o_3G.n3
    have o_3n6 := o_3G.n6
    have o_3k := o_3G.k
    obtain ⟨o_3h0, ⟨o_3fl, o_3hl, o_3lw⟩, ⟨o_3fs, o_3hs, o_3sw⟩, ⟨o_3fg, o_3hg, o_3gw⟩, ⟨o_3fr, o_3hr, o_3rw⟩, o_3ru⟩ := id o_3H
    obtain ⟨o_3n, o_3nl, o_3y0, o_3k6, -, -, -⟩ := id o_3Y
    obtain ⟨⟨o_3mp, o_3mw, o_3v0⟩, ⟨o_3fv, o_3v3, o_3vw⟩, ⟨o_3fo, o_3v4, o_3ow⟩, ⟨o_3fb, o_3v5, o_3bw⟩⟩ := id (p_15.1)
    have o_3p0 := o_3P.1
    have o_3p60 := o_3P.2.2.1
    have o_3a0 := o_31.1
    have o_3b0 := o_32.1
    refine lv_aload_n hx hb dX7_surveyNow_18 rfl (lv_at hl 0 rfl) ?_
    refine lv_iconst (v := (nI 1)) hx hb dX7_surveyNow_19 (by decide) ?_
    refine fs_put E hP hS (k := 0) 6 fc7 o_3x (by omega) (by decide) (wm wl_5 (i := 10) rfl) rfl rfl rfl rfl (Nat.le_of_ble_eq_true rfl) dX7_surveyNow_20 (fun ct_4 H locs q_5 hP hS => ?_)
    have h_6 : ct_4 0 = .inr (7, [.ref (fa g 1), .ref (fa g 26), .ref (fa g 178), .ref (fa g 204), .ref (fa g 230), .ref (fa g 232), .int (nI 1)]) := by rw [q_5]; exact fu_eq _ _ _
    have h_7 : ct_4 1 = .inr (1, [.int (nI (nB σ)), .int (σ 2), .int (nI (nT σ)), .ref (fa g 2), .ref (fa g 3), .ref (fa g 4), .ref (fa g 5)]) := by rw [q_5]; exact (fu_ne (by omega)).trans o_3h0
    have h_8 : ct_4 2 = .inl (fcI g, 6, .inl o_3fl) := by rw [q_5]; exact (fu_ne (by omega)).trans o_3hl
    have h_9 : ct_4 3 = .inl (fcI g, 6, .inl o_3fs) := by rw [q_5]; exact (fu_ne (by omega)).trans o_3hs
    have h_10 : ct_4 4 = .inl (fcI g, 6, .inl o_3fg) := by rw [q_5]; exact (fu_ne (by omega)).trans o_3hg
    have h_11 : ct_4 5 = .inl (fcR g, 20, .inr (.inr (.inr (.inr o_3fr)))) := by rw [q_5]; exact (fu_ne (by omega)).trans o_3hr
    have h_12 : ct_4 26 = .inr (0, [.ref (fa g 27), .int (nI k), .int (nI o_3n)]) := by rw [q_5]; exact (fu_ne (by omega)).trans o_3y0
    have h_13 : ct_4 178 = .inr (4, [.ref (fa g 179), .int (if u1 = true then nI 1 else nI 0)]) := by rw [q_5]; exact (fu_ne (by omega)).trans o_3a0
    have h_14 : ct_4 204 = .inr (4, [.ref (fa g 205), .int (if u2 = true then nI 1 else nI 0)]) := by rw [q_5]; exact (fu_ne (by omega)).trans o_3b0
    have h_15 : ct_4 230 = .inr (2, [.ref (fa g 231), .int (nI len)]) := by rw [q_5]; exact (fu_ne (by omega)).trans o_3p0
    have h_16 : ct_4 232 = .inr (5, [.ref (fa g 233), .int (nI (Wn σ)), .int o_3mp, .int o_3mw, .ref (fa g 235), .ref (fa g 236), .ref (fa g 237), .ref (fa g 238)]) := by rw [q_5]; exact (fu_ne (by omega)).trans o_3v0
    have h_17 : ct_4 235 = .inl (fcI g, 36, .inl o_3fv) := by rw [q_5]; exact (fu_ne (by omega)).trans o_3v3
    have h_18 : ct_4 236 = .inl (fcI g, 20, .inl o_3fo) := by rw [q_5]; exact (fu_ne (by omega)).trans o_3v4
    have h_19 : ct_4 237 = .inl (fcI g, 20, .inl o_3fb) := by rw [q_5]; exact (fu_ne (by omega)).trans o_3v5
    refine lv_aload_n hx hb dX7_surveyNow_23 rfl (lv_at hl 0 rfl) ?_
    refine fs_get E hP (k := 0) (v := .ref (fa g 232)) 5 fc7 h_6 (by omega) (by decide) (wm wl_2 (i := 6) rfl) rfl dX7_surveyNow_24 ?_
    refine fs_aret E hr (Or.inr ⟨_, rfl⟩) hlk hP hS dX7_surveyNow_27 ?_
    exact ⟨rfl, OGx.x og2 h_6 (show fSame 0 1 _ _ from (fSame.ap fSame.rf q_5 (by omega) (by omega))), SurvP.keep p_15.1 ((fun j (_ : 232 ≤ j) => (show ct_4 j = ct_2 j by rw [q_5]; exact fu_ne (by omega))) _ (by omega)) ((fun j (_ : 232 ≤ j) => (show ct_4 j = ct_2 j by rw [q_5]; exact fu_ne (by omega))) _ (by omega)) ((fun j (_ : 232 ≤ j) => (show ct_4 j = ct_2 j by rw [q_5]; exact fu_ne (by omega))) _ (by omega)) ((fun j (_ : 232 ≤ j) => (show ct_4 j = ct_2 j by rw [q_5]; exact fu_ne (by omega))) _ (by omega)), (show fSame 0 239 _ _ from (fSame.ap (fSame.tr2 fSame.rf p_15.2.2.2 (by omega) (by omega)) q_5 (by omega) (by omega)))⟩

theorem lk2_out {x : Int32} (h0 : ¬ x = nI 0) (h1 : ¬ x = nI 1) : Op.lookupswitch.offset [(0, 27), (1, 32)] 37 x.toInt = 37 := by
  have a : ¬ x.toInt = 0 := fun q => h0 ((fn_eq (by omega)).mpr (by omega))
  have b : ¬ x.toInt = 1 := fun q => h1 ((fn_eq (by omega)).mpr (by omega))
  have a2 : ¬ (0 : Int) = x.toInt := fun q => a q.symm
  have b2 : ¬ (1 : Int) = x.toInt := fun q => b q.symm
  simp [Op.lookupswitch.offset, a2, b2, a, b]
