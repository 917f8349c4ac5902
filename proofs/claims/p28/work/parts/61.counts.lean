theorem CO_zero {σ : Nat → Int32} {f : Nat → Int32} (hG : Good σ) (h12 : nT σ ≤ 12) (h : ∀ p, p < 51 → f p = nI 0) : CO σ 0 f := by
  have h6 := hG.n6
  exact ⟨h 0 (by omega), fun p b hp hb => h _ (by omega), fun r hr => h _ (by omega), h _ (by omega), h _ (by omega)⟩
theorem mwQ_f {σ : Nat → Int32} {m : Nat} (h : okq σ m = false) : mwQ σ (m + 1) = mwQ σ m := by
  show (if okq σ m = true then _ else _) = _
  rw [h]; rfl
theorem mwQ_t {σ : Nat → Int32} {m : Nat} (h : okq σ m = true) : mwQ σ (m + 1) = mwP (nB σ) (wd (nB σ) m) (mwQ σ m) (nB σ) := if_pos h
theorem CO_skip {σ : Nat → Int32} {m : Nat} {f : Nat → Int32} (H : CO σ m f) (hno : okq σ m = false) : CO σ (m + 1) f := by
  obtain ⟨a, b, c, d, e⟩ := H
  refine ⟨by rw [cN_f hno]; exact a, fun p b0 hp hb => ?_, fun r hr => ?_, by rw [mwQ_f hno]; exact d, by rw [mwQ_f hno]; exact e⟩
  · rw [cN_f (by unfold lkq; rw [hno]; rfl)]; exact b p b0 hp hb
  · rw [cN_f (by unfold hdq; rw [hno]; rfl)]; exact c r hr
theorem lk_hit {σ : Nat → Int32} {q p : Nat} (hok : okq σ q = true) : lkq σ p (wd (nB σ) q p) q = true := by unfold lkq; rw [hok, decide_eq_true rfl]; rfl
theorem lk_miss {σ : Nat → Int32} {q p b : Nat} (h : wd (nB σ) q p ≠ b) : lkq σ p b q = false := by unfold lkq; rw [decide_eq_false h, Bool.and_false]
theorem hd_hit {σ : Nat → Int32} {q r : Nat} (hok : okq σ q = true) : hdq σ r q = hdr σ (wd (nB σ) q) r := by unfold hdq; rw [hok]; rfl
/-- a world being counted: the first i persons are through -/
def C1 (σ : Nat → Int32) (m i : Nat) (f : Nat → Int32) : Prop := f 0 = nI (cN (okq σ) (m + 1)) ∧ (∀ p b, p < nB σ → b < 6 → f (1 + 6 * p + b) = nI (cN (lkq σ p b) (if p < i then m + 1 else m))) ∧ (∀ r, r < nT σ → f (37 + r) = nI (cN (hdq σ r) m)) ∧ f 50 = nI (mwP (nB σ) (wd (nB σ) m) (mwQ σ m) i).1 ∧ f 49 = nI (mwP (nB σ) (wd (nB σ) m) (mwQ σ m) i).2
theorem C1_0 {σ : Nat → Int32} {m : Nat} {f : Nat → Int32} (H : CO σ m f) : C1 σ m 0 (upd f 0 (nI (cN (okq σ) (m + 1)))) := by
  obtain ⟨a, b, c, d, e⟩ := H
  refine ⟨upd_eq _ _ _, fun p b0 hp hb => ?_, fun r hr => ?_, ?_, ?_⟩
  · rw [upd_ne (by omega), if_neg (by omega)]; exact b p b0 hp hb
  · rw [upd_ne (by omega)]; exact c r hr
  · rw [upd_ne (by omega)]; exact d
  · rw [upd_ne (by omega)]; exact e
/-- one person more: the looking alone -/
theorem C1_lk {σ : Nat → Int32} {m i : Nat} {f : Nat → Int32} (hG : Good σ) (hi : i < nB σ) (hok : okq σ m = true) (H : C1 σ m i f) :
    (upd f (1 + 6 * i + wd (nB σ) m i) (nI (cN (lkq σ i (wd (nB σ) m i)) (m + 1)))) 0 = nI (cN (okq σ) (m + 1)) ∧ (∀ p b, p < nB σ → b < 6 → (upd f (1 + 6 * i + wd (nB σ) m i) (nI (cN (lkq σ i (wd (nB σ) m i)) (m + 1)))) (1 + 6 * p + b) = nI (cN (lkq σ p b) (if p < i + 1 then m + 1 else m))) ∧ (∀ r, r < nT σ → (upd f (1 + 6 * i + wd (nB σ) m i) (nI (cN (lkq σ i (wd (nB σ) m i)) (m + 1)))) (37 + r) = nI (cN (hdq σ r) m)) ∧ (upd f (1 + 6 * i + wd (nB σ) m i) (nI (cN (lkq σ i (wd (nB σ) m i)) (m + 1)))) 50 = nI (mwP (nB σ) (wd (nB σ) m) (mwQ σ m) i).1 ∧ (upd f (1 + 6 * i + wd (nB σ) m i) (nI (cN (lkq σ i (wd (nB σ) m i)) (m + 1)))) 49 = nI (mwP (nB σ) (wd (nB σ) m) (mwQ σ m) i).2 := by
  have h6 := hG.n6
  have hwi := (wd_ok hG.n3 m) i hi
  obtain ⟨a, b, c, d, e⟩ := H
  refine ⟨by rw [upd_ne (by omega)]; exact a, fun p b0 hp hb => ?_, fun r hr => by rw [upd_ne (by omega)]; exact c r hr, by rw [upd_ne (by omega)]; exact d, by rw [upd_ne (by omega)]; exact e⟩
  by_cases y : p = i
  · subst y
    rw [if_pos (by omega)]
    by_cases x : b0 = wd (nB σ) m p
    · subst x; exact upd_eq _ _ _
    · rw [upd_ne (by omega), cN_f (lk_miss (Ne.symm x))]
      have e0 := b p b0 hp hb
      rw [if_neg (by omega)] at e0; exact e0
  · rw [upd_ne (by omega)]
    have e0 := b p b0 hp hb
    by_cases x : p < i
    · rw [if_pos x] at e0; rw [if_pos (by omega)]; exact e0
    · rw [if_neg x] at e0; rw [if_neg (by omega)]; exact e0
abbrev mwc (σ : Nat → Int32) (m i : Nat) : Prop := (mwP (nB σ) (wd (nB σ) m) (mwQ σ m) i).2 < cN (fun k => decide (wd (nB σ) m k = i)) (nB σ) ∨ (cN (fun k => decide (wd (nB σ) m k = i)) (nB σ) = (mwP (nB σ) (wd (nB σ) m) (mwQ σ m) i).2 ∧ i < (mwP (nB σ) (wd (nB σ) m) (mwQ σ m) i).1)
theorem C1_no {σ : Nat → Int32} {m i : Nat} {f : Nat → Int32} (hG : Good σ) (hi : i < nB σ) (hok : okq σ m = true) (H : C1 σ m i f) (hc : ¬ mwc σ m i) : C1 σ m (i + 1) (upd f (1 + 6 * i + wd (nB σ) m i) (nI (cN (lkq σ i (wd (nB σ) m i)) (m + 1)))) := by
  obtain ⟨a, b, c, d, e⟩ := C1_lk hG hi hok H
  have hms : mwP (nB σ) (wd (nB σ) m) (mwQ σ m) (i + 1) = mwP (nB σ) (wd (nB σ) m) (mwQ σ m) i := if_neg hc
  exact ⟨a, b, c, by rw [hms]; exact d, by rw [hms]; exact e⟩
theorem C1_yes {σ : Nat → Int32} {m i : Nat} {f : Nat → Int32} (hG : Good σ) (h12 : nT σ ≤ 12) (hi : i < nB σ) (hok : okq σ m = true) (H : C1 σ m i f) (hc : mwc σ m i) : C1 σ m (i + 1) (upd (upd (upd f (1 + 6 * i + wd (nB σ) m i) (nI (cN (lkq σ i (wd (nB σ) m i)) (m + 1)))) 49 (nI (cN (fun k => decide (wd (nB σ) m k = i)) (nB σ)))) 50 (nI i)) := by
  have h6 := hG.n6
  obtain ⟨a, b, c, d, e⟩ := C1_lk hG hi hok H
  have hms : mwP (nB σ) (wd (nB σ) m) (mwQ σ m) (i + 1) = (i, cN (fun k => decide (wd (nB σ) m k = i)) (nB σ)) := if_pos hc
  refine ⟨?_, fun p b0 hp hb => ?_, fun r hr => ?_, ?_, ?_⟩
  · rw [upd_ne (by omega), upd_ne (by omega)]; exact a
  · rw [upd_ne (by omega), upd_ne (by omega)]; exact b p b0 hp hb
  · rw [upd_ne (by omega), upd_ne (by omega)]; exact c r hr
  · rw [upd_eq, hms]
  · rw [upd_ne (by omega), upd_eq, hms]
/-- the first r rumours are through -/
def C2 (σ : Nat → Int32) (m r : Nat) (f : Nat → Int32) : Prop := f 0 = nI (cN (okq σ) (m + 1)) ∧ (∀ p b, p < nB σ → b < 6 → f (1 + 6 * p + b) = nI (cN (lkq σ p b) (m + 1))) ∧ (∀ r2, r2 < nT σ → f (37 + r2) = nI (cN (hdq σ r2) (if r2 < r then m + 1 else m))) ∧ f 50 = nI (mwQ σ (m + 1)).1 ∧ f 49 = nI (mwQ σ (m + 1)).2
theorem C2_0 {σ : Nat → Int32} {m : Nat} {f : Nat → Int32} (hok : okq σ m = true) (H : C1 σ m (nB σ) f) : C2 σ m 0 f := by
  obtain ⟨a, b, c, d, e⟩ := H
  refine ⟨a, fun p b0 hp hb => ?_, fun r hr => ?_, by rw [mwQ_t hok]; exact d, by rw [mwQ_t hok]; exact e⟩
  · have e0 := b p b0 hp hb
    rw [if_pos hp] at e0; exact e0
  · rw [if_neg (by omega)]; exact c r hr
theorem C2_s {σ : Nat → Int32} {m r : Nat} {f : Nat → Int32} (hG : Good σ) (h12 : nT σ ≤ 12) (H : C2 σ m r f) (hr0 : r < nT σ) : C2 σ m (r + 1) (upd f (37 + r) (nI (cN (hdq σ r) (m + 1)))) := by
  have h6 := hG.n6
  obtain ⟨a, b, c, d, e⟩ := H
  refine ⟨by rw [upd_ne (by omega)]; exact a, fun p b0 hp hb => by rw [upd_ne (by omega)]; exact b p b0 hp hb, fun r1 hr => ?_, by rw [upd_ne (by omega)]; exact d, by rw [upd_ne (by omega)]; exact e⟩
  have e0 := c r1 hr
  by_cases y : r1 = r
  · subst y; rw [upd_eq, if_pos (by omega)]
  · rw [upd_ne (by omega)]
    by_cases x : r1 < r
    · rw [if_pos x] at e0; rw [if_pos (by omega)]; exact e0
    · rw [if_neg x] at e0; rw [if_neg (by omega)]; exact e0
theorem C2_end {σ : Nat → Int32} {m : Nat} {f : Nat → Int32} (H : C2 σ m (nT σ) f) : CO σ (m + 1) f := by
  obtain ⟨a, b, c, d, e⟩ := H
  exact ⟨a, b, fun r hr => by have e0 := c r hr; rw [if_pos hr] at e0; exact e0, d, e⟩
/-- the worlds that a rumour alone makes impossible, where none is possible -/
abbrev wo1 (σ : Nat → Int32) (x : Int32) (q : Nat) : Bool := decide (∀ r, r < nT σ → x = nI r ∨ bad σ (wd (nB σ) q) r = false)
theorem wo_on {σ : Nat → Int32} (h20 : nT σ ≤ 20) (hW : Wn σ = 0) {r0 : Nat} (hr : r0 < nT σ) : cN (wo1 σ (nI r0)) (mM σ) = ONn σ r0 := by
  refine cN_cong (fun q hq => ?_)
  have hno : okq σ q = false := Bool.eq_false_iff.mpr (fun y => by have := cN_pos (p := okq σ) hq y; unfold Wn at hW; omega)
  by_cases z : onq σ r0 q = true
  · rw [z]
    obtain ⟨h1, h2, h3⟩ := onq_t.mp z
    refine decide_eq_true (fun r hr1 => ?_)
    by_cases y : r = r0
    · exact Or.inl (by rw [y])
    · exact Or.inr (h3 r hr1 y)
  · rw [Bool.eq_false_iff.mpr z]
    refine decide_eq_false (fun y => z (onq_t.mpr ⟨hr, ?_, fun r2 h2 h3 => (y r2 h2).resolve_left (fun e => h3 ((nI_eq (by omega) (by omega)).mp e).symm)⟩))
    refine Bool.not_eq_false _ ▸ (fun e => ?_)
    have : okq σ q = true := okq_t.mpr (fun r2 h2 => if e2 : r2 = r0 then (by rw [e2]; exact e) else (y r2 h2).resolve_left (fun e3 => e2 ((nI_eq (by omega) (by omega)).mp e3).symm))
    rw [hno] at this; cases this

set_option maxRecDepth 100000 in
set_option maxHeartbeats 4000000 in
theorem c_L_all (l : Launch) (g : fG) (N : Nat) (ct : Nat → va_E) (σ : Nat → Int32) (hN : 246 ≤ N) (hG : Good σ) (h12 : nT σ ≤ 12) (fr : Nat → Int32) (hcr : ct 242 = .inl (fcI g, 60, .inl fr)) (hR : LR σ fr) (fq : Nat → Int32) (hcq : ct 243 = .inl (fcI g, 3, .inl fq)) (hQ : fq 0 = nI (nB σ) ∧ fq 1 = nI (nT σ)) (fw : Nat → Int32) (hcw : ct 244 = .inl (fcI g, 6, .inl fw)) (fc : Nat → Int32) (hcc : ct 245 = .inl (fcI g, 51, .inl fc)) : Met l yL_all (wsU yL_all cL_all 7 none) rL_all (fPre g N ct [.ref (fa g 243), .ref (fa g 242), .ref (fa g 244), .ref (fa g 245)]) (fQv g N (fun ct1 => (∃ f1 : Nat → Int32, ct1 244 = .inl (fcI g, 6, .inl f1)) ∧ (∃ f2 : Nat → Int32, ct1 245 = .inl (fcI g, 51, .inl f2) ∧ CO σ (mM σ) f2) ∧ fSame 244 246 ct ct1)) 0 0 (fB g) := by
  refine fs_start (own := RL) (lv0 := [(0, .ref (fa g 243)), (1, .ref (fa g 242)), (2, .ref (fa g 244)), (3, .ref (fa g 245))]) (by decide) rfl (Nat.le_of_ble_eq_true rfl) rfl ?_
  intro p e s m args below meth c ls E hr hlk hnm hP hl hS
  have hx := E.1.1
  have hb := E.1.2.1
  have hn3 := hG.n3
  have hn6 := hG.n6
  have hM := hG.M
  refine lv_iconst (v := (nI 0)) hx hb dL_all_0 (by decide) ?_
  refine lv_istore (lv' := [(4, .int (nI 0)), (0, .ref (fa g 243)), (1, .ref (fa g 242)), (2, .ref (fa g 244)), (3, .ref (fa g 245))]) hx hb dL_all_1 hl (by decide) rfl (fun ls hl => ?_)
  refine fs_ind (g := g) (N := N) (St := Nat) (fun (i : Nat) (ct_1 : Nat → va_E) (ls : Array Slot) => lv_has ls 7 [(0, .ref (fa g 243)), (1, .ref (fa g 242)), (2, .ref (fa g 244)), (3, .ref (fa g 245)), (4, .int (nI i))] ∧ ∃ fz : Nat → Int32, ct_1 = fu ct 245 (.inl (fcI g, 51, .inl fz)) ∧ i ≤ 51 ∧ ∀ p, p < i → fz p = nI 0) (fun i => 51 - i) ?_ 0 _ _ ls _ ⟨lv_sub hl [1, 2, 3, 4, 0] rfl, ⟨_, by rw [fu_same hcc], by omega, fun p hp => absurd hp (by omega)⟩⟩ hP hS
  clear hl hP hS
  intro st ct_1 H ls locs hI hP hS ih
  obtain ⟨i, rfl⟩ : ∃ z, z = st := ⟨_, rfl⟩
  obtain ⟨hl, fz, hcz, hI⟩ := hI
  have h_2 : ct_1 242 = .inl (fcI g, 60, .inl fr) := by rw [hcz]; exact (fu_ne (by omega)).trans hcr
  have h_3 : ct_1 243 = .inl (fcI g, 3, .inl fq) := by rw [hcz]; exact (fu_ne (by omega)).trans hcq
  have h_4 : ct_1 244 = .inl (fcI g, 6, .inl fw) := by rw [hcz]; exact (fu_ne (by omega)).trans hcw
  have h_5 : ct_1 245 = .inl (fcI g, 51, .inl fz) := by rw [hcz]; exact fu_eq _ _ _
  have hI1 := hI.1
  refine lv_iload hx hb dL_all_3 (lv_at hl 4 rfl) ?_
  refine lv_bipush (v := (nI 51)) hx hb dL_all_5 (by decide) ?_
  refine lv_icmp_ge (tgt := 21) hx hb dL_all_7 (by decide) (fun c_7 => ?_) (fun c_7 => ?_)
  · rw [nI_leI (by omega) (by omega)] at c_7
    have hz : ∀ p, p < 51 → fz p = nI 0 := fun p hp => hI.2 p (by omega)
    refine lv_aload_n hx hb dL_all_21 rfl (lv_at hl 0 rfl) ?_
    refine lv_aload_n hx hb dL_all_22 rfl (lv_at hl 2 rfl) ?_
    refine fs_v (va_runS (As := [.ref (fa g 243), .ref (fa g 244)]) (rest := []) E.1 (c_L_first l g N ct_1 σ (by omega) hG fq h_3 hQ fw h_4) (lk_RL_20 E.1.2.2.2.2 ⟨Nat.le_of_ble_eq_true rfl, Nat.le_of_ble_eq_true rfl⟩) (fpreS E hP hS) rfl rfl hl.1 rfl (lv_room (Nat.le_of_ble_eq_true rfl)) dL_all_23 ⟨Nat.zero_le _, Nat.zero_le _⟩) hS (fun ct_6 H locs p_23 hP hS => ?_)
    obtain ⟨f_7, e_8, h_9⟩ := p_23
    have h_10 : ct_6 242 = .inl (fcI g, 60, .inl fr) := by rw [e_8]; exact (fu_ne (by omega)).trans h_2
    have h_11 : ct_6 243 = .inl (fcI g, 3, .inl fq) := by rw [e_8]; exact (fu_ne (by omega)).trans h_3
    have h_12 : ct_6 244 = .inl (fcI g, 6, .inl f_7) := by rw [e_8]; exact fu_eq _ _ _
    have h_13 : ct_6 245 = .inl (fcI g, 51, .inl fz) := by rw [e_8]; exact (fu_ne (by omega)).trans h_5
    refine fs_ind (g := g) (N := N) (St := Nat) (fun (mm : Nat) (ct_14 : Nat → va_E) (ls : Array Slot) => lv_has ls 7 [(0, .ref (fa g 243)), (1, .ref (fa g 242)), (2, .ref (fa g 244)), (3, .ref (fa g 245))] ∧ mm < mM σ ∧ (∃ f1 : Nat → Int32, ct_14 244 = .inl (fcI g, 6, .inl f1) ∧ ∀ p, p < nB σ → f1 p = nI (wd (nB σ) mm p)) ∧ (∃ f2 : Nat → Int32, ct_14 245 = .inl (fcI g, 51, .inl f2) ∧ CO σ mm f2) ∧ fSame 244 246 ct ct_14) (fun (mm : Nat) => mM σ - mm) ?_ 0 _ _ ls _ ⟨lv_sub hl [0, 1, 2, 3] rfl, hM.2, ⟨_, h_12, h_9⟩, ⟨_, h_13, CO_zero hG h12 hz⟩, (show fSame 244 246 ct ct_6 from (fSame.ap (fSame.ap fSame.rf hcz (by omega) (by omega)) e_8 (by omega) (by omega)))⟩ hP hS
    clear hl hP hS
    intro st ct_14 H ls locs hI hP hS ihm
    obtain ⟨mm, rfl⟩ : ∃ z, z = st := ⟨_, rfl⟩
    obtain ⟨hl, hI⟩ := hI
    obtain ⟨hm, ⟨f1, h44, hw1⟩, ⟨f2, h45, hC⟩, hs9⟩ := hI
    have hcr9 : ct_14 242 = .inl (fcI g, 60, .inl fr) := (hs9 _ (by omega)).trans hcr
    have hcq9 : ct_14 243 = .inl (fcI g, 3, .inl fq) := (hs9 _ (by omega)).trans hcq
    refine lv_aload_n hx hb dL_all_26 rfl (lv_at hl 0 rfl) ?_
    refine lv_aload_n hx hb dL_all_27 rfl (lv_at hl 1 rfl) ?_
    refine lv_aload_n hx hb dL_all_28 rfl (lv_at hl 2 rfl) ?_
    refine lv_iconst (v := (-1)) hx hb dL_all_29 (by decide) ?_
    refine fs_pi (va_runS (As := [.ref (fa g 243), .ref (fa g 242), .ref (fa g 244), .int (-1)]) (rest := []) E.1 (c_L_may l g N ct_14 σ (by omega) hG h12 fr hcr9 hR fq hcq9 hQ 244 f1 (wd (nB σ) mm) (by omega) hw1 (wd_ok hn3 mm) h44 (-1)) (lk_RL_24 E.1.2.2.2.2 ⟨Nat.le_of_ble_eq_true rfl, Nat.le_of_ble_eq_true rfl⟩) (fpreS E hP hS) rfl rfl hl.1 rfl (lv_room (Nat.le_of_ble_eq_true rfl)) dL_all_30 ⟨Nat.zero_le _, Nat.zero_le _⟩) hS (fun r_30 locs p_30 hS => ?_)
    have p30 := p_30.trans (bI_iff (may_m1 (by omega)))
    refine lv_if_ne (tgt := 39) hx hb dL_all_33 (by decide) (fun c_33 => ?_) (fun c_33 => ?_)
    · have c_33 := (fb_1 p30).mp c_33
      have hok : okq σ mm = true := c_33
      refine lv_aload_n hx hb dL_all_39 rfl (lv_at hl 3 rfl) ?_
      refine lv_iconst (v := (nI 0)) hx hb dL_all_40 (by decide) ?_
      refine lv_dup2_11 hx hb dL_all_41 rfl rfl ?_
      refine fs_iald E hP (k := 245) h45 (by omega) (vp_in_nI (by omega) (by omega)) dL_all_42 ?_
      refine fs_vi (y := f2 0) (congrArg f2 (nI_clamp (by omega))) ?_
      refine fs_vi (y := (nI (cN (okq σ) mm))) hC.1 ?_
      refine lv_iconst (v := (nI 1)) hx hb dL_all_43 (by decide) ?_
      refine lv_iadd hx hb dL_all_44 ?_
      refine fs_vi (y := (nI (cN (okq σ) (mm + 1)))) (by rw [cN_t hok]; exact nI_add _ _) ?_
      refine fs_iast E hP hS (k := 245) h45 (by omega) (vp_in_nI (by omega) (by omega)) dL_all_45 (fun ct_15 H locs q_16 hP hS => ?_)
      rw [nI_clamp (by omega)] at q_16
      have h_17 : ct_15 242 = .inl (fcI g, 60, .inl fr) := by rw [q_16]; exact (fu_ne (by omega)).trans hcr9
      have h_18 : ct_15 243 = .inl (fcI g, 3, .inl fq) := by rw [q_16]; exact (fu_ne (by omega)).trans hcq9
      have h_19 : ct_15 244 = .inl (fcI g, 6, .inl f1) := by rw [q_16]; exact (fu_ne (by omega)).trans h44
      have h_20 : ct_15 245 = .inl (fcI g, 51, .inl (upd f2 0 (nI (cN (okq σ) (mm + 1))))) := by rw [q_16]; exact fu_eq _ _ _
      refine lv_iconst (v := (nI 0)) hx hb dL_all_46 (by decide) ?_
      refine lv_istore (lv' := [(4, .int (nI 0)), (0, .ref (fa g 243)), (1, .ref (fa g 242)), (2, .ref (fa g 244)), (3, .ref (fa g 245))]) hx hb dL_all_47 hl (by decide) rfl (fun ls hl => ?_)
      refine fs_ind (g := g) (N := N) (St := Nat) (fun (i : Nat) (ct_21 : Nat → va_E) (ls : Array Slot) => lv_has ls 7 [(0, .ref (fa g 243)), (1, .ref (fa g 242)), (2, .ref (fa g 244)), (3, .ref (fa g 245)), (4, .int (nI i))] ∧ ∃ f3 : Nat → Int32, ct_21 = fu ct_15 245 (.inl (fcI g, 51, .inl f3)) ∧ i ≤ nB σ ∧ C1 σ mm i f3) (fun i => nB σ - i) ?_ 0 _ _ ls _ ⟨lv_sub hl [1, 2, 3, 4, 0] rfl, ⟨_, by rw [fu_same h_20], by omega, C1_0 hC⟩⟩ hP hS
      clear hl hP hS
      intro st ct_21 H ls locs hI hP hS ih1
      obtain ⟨i, rfl⟩ : ∃ z, z = st := ⟨_, rfl⟩
      obtain ⟨hl, f3, hc3, hI⟩ := hI
      have h_22 : ct_21 242 = .inl (fcI g, 60, .inl fr) := by rw [hc3]; exact (fu_ne (by omega)).trans h_17
      have h_23 : ct_21 243 = .inl (fcI g, 3, .inl fq) := by rw [hc3]; exact (fu_ne (by omega)).trans h_18
      have h_24 : ct_21 244 = .inl (fcI g, 6, .inl f1) := by rw [hc3]; exact (fu_ne (by omega)).trans h_19
      have h_25 : ct_21 245 = .inl (fcI g, 51, .inl f3) := by rw [hc3]; exact fu_eq _ _ _
      have hI1 := hI.1
      refine lv_iload hx hb dL_all_49 (lv_at hl 4 rfl) ?_
      refine lv_aload_n hx hb dL_all_51 rfl (lv_at hl 0 rfl) ?_
      refine lv_iconst (v := (nI 0)) hx hb dL_all_52 (by decide) ?_
      refine fs_iald E hP (k := 243) h_23 (by omega) (vp_in_nI (by omega) (by omega)) dL_all_53 ?_
      refine fs_vi (y := fq 0) (congrArg fq (nI_clamp (by omega))) ?_
      refine fs_vi (y := (nI (nB σ))) hQ.1 ?_
      refine lv_icmp_ge (tgt := 162) hx hb dL_all_54 (by decide) (fun c_54 => ?_) (fun c_54 => ?_)
      · rw [nI_leI (by omega) (by omega)] at c_54
        have hin : i = nB σ := by omega
        have hJ1 : C1 σ mm (nB σ) f3 := by have e9 := hI.2; rw [hin] at e9; exact e9
        refine lv_iconst (v := (nI 0)) hx hb dL_all_162 (by decide) ?_
        refine lv_istore (lv' := [(4, .int (nI 0)), (0, .ref (fa g 243)), (1, .ref (fa g 242)), (2, .ref (fa g 244)), (3, .ref (fa g 245))]) hx hb dL_all_163 hl (by decide) rfl (fun ls hl => ?_)
        refine fs_ind (g := g) (N := N) (St := Nat) (fun (r0 : Nat) (ct_26 : Nat → va_E) (ls : Array Slot) => lv_has ls 7 [(0, .ref (fa g 243)), (1, .ref (fa g 242)), (2, .ref (fa g 244)), (3, .ref (fa g 245)), (4, .int (nI r0))] ∧ ∃ f4 : Nat → Int32, ct_26 = fu ct_21 245 (.inl (fcI g, 51, .inl f4)) ∧ r0 ≤ nT σ ∧ C2 σ mm r0 f4) (fun r0 => nT σ - r0) ?_ 0 _ _ ls _ ⟨lv_sub hl [1, 2, 3, 4, 0] rfl, ⟨_, by rw [fu_same h_25], Nat.zero_le _, C2_0 hok hJ1⟩⟩ hP hS
        clear hl hP hS
        intro st ct_26 H ls locs hI hP hS ih3
        obtain ⟨r0, rfl⟩ : ∃ z, z = st := ⟨_, rfl⟩
        obtain ⟨hl, f4, hc4, hI⟩ := hI
        have h_27 : ct_26 242 = .inl (fcI g, 60, .inl fr) := by rw [hc4]; exact (fu_ne (by omega)).trans h_22
        have h_28 : ct_26 243 = .inl (fcI g, 3, .inl fq) := by rw [hc4]; exact (fu_ne (by omega)).trans h_23
        have h_29 : ct_26 244 = .inl (fcI g, 6, .inl f1) := by rw [hc4]; exact (fu_ne (by omega)).trans h_24
        have h_30 : ct_26 245 = .inl (fcI g, 51, .inl f4) := by rw [hc4]; exact fu_eq _ _ _
        have hI1 := hI.1
        refine lv_iload hx hb dL_all_165 (lv_at hl 4 rfl) ?_
        refine lv_aload_n hx hb dL_all_167 rfl (lv_at hl 0 rfl) ?_
        refine lv_iconst (v := (nI 1)) hx hb dL_all_168 (by decide) ?_
        refine fs_iald E hP (k := 243) h_28 (by omega) (vp_in_nI (by omega) (by omega)) dL_all_169 ?_
        refine fs_vi (y := fq 1) (congrArg fq (nI_clamp (by omega))) ?_
        refine fs_vi (y := (nI (nT σ))) hQ.2 ?_
        refine lv_icmp_ge (tgt := 207) hx hb dL_all_170 (by decide) (fun c_170 => ?_) (fun c_170 => ?_)
        · rw [nI_leI (by omega) (by omega)] at c_170
          have hr9 : r0 = nT σ := by omega
          have hC9 : CO σ (mm + 1) f4 := C2_end (by have e9 := hI.2; rw [hr9] at e9; exact e9)
          refine lv_aload_n hx hb dL_all_207 rfl (lv_at hl 0 rfl) ?_
          refine lv_aload_n hx hb dL_all_208 rfl (lv_at hl 2 rfl) ?_
          refine fs_i (va_runS (As := [.ref (fa g 243), .ref (fa g 244)]) (rest := []) E.1 (c_L_next l g N ct_26 σ (by omega) hG fq h_28 hQ f1 h_29 mm hm hw1) (lk_RL_28 E.1.2.2.2.2 ⟨Nat.le_of_ble_eq_true rfl, Nat.le_of_ble_eq_true rfl⟩) (fpreS E hP hS) rfl rfl hl.1 rfl (lv_room (Nat.le_of_ble_eq_true rfl)) dL_all_209 ⟨Nat.zero_le _, Nat.zero_le _⟩) hS (fun r_209 ct_31 H locs p_209 hP hS => ?_)
          obtain ⟨f5, e5, h5⟩ := p_209
          have h_32 : ct_31 242 = .inl (fcI g, 60, .inl fr) := by rw [e5]; exact (fu_ne (by omega)).trans h_27
          have h_33 : ct_31 243 = .inl (fcI g, 3, .inl fq) := by rw [e5]; exact (fu_ne (by omega)).trans h_28
          have h_34 : ct_31 244 = .inl (fcI g, 6, .inl f5) := by rw [e5]; exact fu_eq _ _ _
          have h_35 : ct_31 245 = .inl (fcI g, 51, .inl f4) := by rw [e5]; exact (fu_ne (by omega)).trans h_30
          rcases h5 with ⟨hm5, rfl, hw5⟩ | ⟨hm5, rfl⟩
          · refine lv_if_ne (tgt := 26) hx hb dL_all_212 (by decide) (fun c_212 => ?_) (fun c_212 => ?_)
            rotate_left
            · exact absurd c_212 (by decide)
            exact ihm (mm + 1) _ _ ls _ (by (try dsimp only); omega) ⟨lv_sub hl [0, 1, 2, 3] rfl, hm5, ⟨f5, h_34, hw5⟩, ⟨_, h_35, hC9⟩, (show fSame 244 246 ct ct_31 from (fSame.ap (fSame.ap (fSame.ap (fSame.ap (fSame.tr2 fSame.rf hs9 (by omega) (by omega)) q_16 (by omega) (by omega)) hc3 (by omega) (by omega)) hc4 (by omega) (by omega)) e5 (by omega) (by omega)))⟩ hP hS
          · refine lv_if_ne (tgt := 26) hx hb dL_all_212 (by decide) (fun c_212 => ?_) (fun c_212 => ?_)
            · exact absurd c_212 (by decide)
            refine fs_vret E hr hlk hP hS dL_all_215 ?_
            exact ⟨⟨_, h_34⟩, ⟨_, h_35, by rw [← hm5]; exact hC9⟩, (show fSame 244 246 ct ct_31 from (fSame.ap (fSame.ap (fSame.ap (fSame.ap (fSame.tr2 fSame.rf hs9 (by omega) (by omega)) q_16 (by omega) (by omega)) hc3 (by omega) (by omega)) hc4 (by omega) (by omega)) e5 (by omega) (by omega)))⟩
        · rw [nI_leI (by omega) (by omega)] at c_170
          refine lv_aload_n hx hb dL_all_173 rfl (lv_at hl 3 rfl) ?_
          refine lv_bipush (v := (nI 37)) hx hb dL_all_174 (by decide) ?_
          refine lv_iload hx hb dL_all_176 (lv_at hl 4 rfl) ?_
          refine lv_iadd hx hb dL_all_178 ?_
          refine fs_vi (y := nI (37 + r0)) (nI_add _ _) ?_
          refine lv_dup2_11 hx hb dL_all_179 rfl rfl ?_
          refine fs_iald E hP (k := 245) h_30 (by omega) (vp_in_nI (by omega) (by omega)) dL_all_180 ?_
          refine fs_vi (y := f4 (37 + r0)) (congrArg f4 (nI_clamp (by omega))) ?_
          refine fs_vi (y := (nI (cN (hdq σ r0) mm))) (by have e0 := hI.2.2.2.1 r0 (by omega); rw [if_neg (by omega)] at e0; exact e0) ?_
          refine lv_iload hx hb dL_all_181 (lv_at hl 4 rfl) ?_
          refine lv_aload_n hx hb dL_all_183 rfl (lv_at hl 1 rfl) ?_
          refine lv_aload_n hx hb dL_all_184 rfl (lv_at hl 2 rfl) ?_
          refine lv_aload_n hx hb dL_all_185 rfl (lv_at hl 0 rfl) ?_
          refine lv_iconst (v := (nI 0)) hx hb dL_all_186 (by decide) ?_
          refine fs_iald E hP (k := 243) h_28 (by omega) (vp_in_nI (by omega) (by omega)) dL_all_187 ?_
          refine fs_vi (y := fq 0) (congrArg fq (nI_clamp (by omega))) ?_
          refine fs_vi (y := (nI (nB σ))) hQ.1 ?_
          refine fs_pi (va_runS (As := [.int (nI r0), .ref (fa g 242), .ref (fa g 244), .int (nI (nB σ))]) (rest := [.int (nI (cN (hdq σ r0) mm)), .int (nI (37 + r0)), .ref (fa g 245)]) E.1 (c_L_of l g N ct_26 σ (by omega) hG h12 fr h_27 hR 244 f1 (wd (nB σ) mm) (by omega) hw1 (wd_ok hn3 mm) h_29 r0 (by omega)) (lk_RL_16 E.1.2.2.2.2 ⟨Nat.le_of_ble_eq_true rfl, Nat.le_of_ble_eq_true rfl⟩) (fpreS E hP hS) rfl rfl hl.1 rfl (lv_room (Nat.le_of_ble_eq_true rfl)) dL_all_188 ⟨Nat.zero_le _, Nat.zero_le _⟩) hS (fun r_188 locs p_188 hS => ?_)
          refine lv_if_eq (tgt := 198) hx hb dL_all_191 (by decide) (fun c_191 => ?_) (fun c_191 => ?_)
          · have c_191 := (fb_0 p_188).mp c_191
            refine lv_iconst (v := (nI 0)) hx hb dL_all_198 (by decide) ?_
            refine lv_iadd hx hb dL_all_199 ?_
            refine fs_vi (y := (nI (cN (hdq σ r0) (mm + 1)))) (by rw [cN_f ((hd_hit hok).trans (Bool.eq_false_iff.mpr c_191))]; exact nI_add _ 0) ?_
            refine fs_iast E hP hS (k := 245) h_30 (by omega) (vp_in_nI (by omega) (by omega)) dL_all_200 (fun ct_36 H locs q_37 hP hS => ?_)
            rw [nI_clamp (by omega)] at q_37
            have h_38 : ct_36 242 = .inl (fcI g, 60, .inl fr) := by rw [q_37]; exact (fu_ne (by omega)).trans h_27
            have h_39 : ct_36 243 = .inl (fcI g, 3, .inl fq) := by rw [q_37]; exact (fu_ne (by omega)).trans h_28
            have h_40 : ct_36 244 = .inl (fcI g, 6, .inl f1) := by rw [q_37]; exact (fu_ne (by omega)).trans h_29
            have h_41 : ct_36 245 = .inl (fcI g, 51, .inl (upd f4 (37 + r0) (nI (cN (hdq σ r0) (mm + 1))))) := by rw [q_37]; exact fu_eq _ _ _
            refine lv_iinc (v := (nI (r0 + 1))) (lv' := [(4, .int (nI (r0 + 1))), (0, .ref (fa g 243)), (1, .ref (fa g 242)), (2, .ref (fa g 244)), (3, .ref (fa g 245))]) hx hb dL_all_201 hl (k := 4) rfl (nI_1 _) (by decide) rfl (fun ls hl => ?_)
            refine lv_goto (tgt := 165) hx hb dL_all_204 (by decide) ?_
            exact ih3 (r0 + 1) _ _ ls _ (by omega) ⟨lv_sub hl [1, 2, 3, 4, 0] rfl, ⟨_, by rw [q_37, hc4, fu_fu], by omega, C2_s hG h12 hI.2 (by omega)⟩⟩ hP hS
          · have c_191 := (fb_1 p_188).mp c_191
            refine lv_iconst (v := (nI 1)) hx hb dL_all_194 (by decide) ?_
            refine lv_goto (tgt := 199) hx hb dL_all_195 (by decide) ?_
            refine lv_iadd hx hb dL_all_199 ?_
            refine fs_vi (y := (nI (cN (hdq σ r0) (mm + 1)))) (by rw [cN_t ((hd_hit hok).trans c_191)]; exact nI_add _ _) ?_
            refine fs_iast E hP hS (k := 245) h_30 (by omega) (vp_in_nI (by omega) (by omega)) dL_all_200 (fun ct_42 H locs q_43 hP hS => ?_)
            rw [nI_clamp (by omega)] at q_43
            have h_44 : ct_42 242 = .inl (fcI g, 60, .inl fr) := by rw [q_43]; exact (fu_ne (by omega)).trans h_27
            have h_45 : ct_42 243 = .inl (fcI g, 3, .inl fq) := by rw [q_43]; exact (fu_ne (by omega)).trans h_28
            have h_46 : ct_42 244 = .inl (fcI g, 6, .inl f1) := by rw [q_43]; exact (fu_ne (by omega)).trans h_29
            have h_47 : ct_42 245 = .inl (fcI g, 51, .inl (upd f4 (37 + r0) (nI (cN (hdq σ r0) (mm + 1))))) := by rw [q_43]; exact fu_eq _ _ _
            refine lv_iinc (v := (nI (r0 + 1))) (lv' := [(4, .int (nI (r0 + 1))), (0, .ref (fa g 243)), (1, .ref (fa g 242)), (2, .ref (fa g 244)), (3, .ref (fa g 245))]) hx hb dL_all_201 hl (k := 4) rfl (nI_1 _) (by decide) rfl (fun ls hl => ?_)
            refine lv_goto (tgt := 165) hx hb dL_all_204 (by decide) ?_
            exact ih3 (r0 + 1) _ _ ls _ (by omega) ⟨lv_sub hl [1, 2, 3, 4, 0] rfl, ⟨_, by rw [q_43, hc4, fu_fu], by omega, C2_s hG h12 hI.2 (by omega)⟩⟩ hP hS
      · rw [nI_leI (by omega) (by omega)] at c_54
        have hJ := hI
        have hwi := (wd_ok hn3 mm) i (show i < nB σ by omega)
        refine lv_aload_n hx hb dL_all_57 rfl (lv_at hl 3 rfl) ?_
        refine lv_iconst (v := (nI 1)) hx hb dL_all_58 (by decide) ?_
        refine lv_bipush (v := (nI 6)) hx hb dL_all_59 (by decide) ?_
        refine lv_iload hx hb dL_all_61 (lv_at hl 4 rfl) ?_
        refine lv_imul hx hb dL_all_63 ?_
        refine fs_vi (y := nI (6 * i)) (pk_mul _ _) ?_
        refine lv_iadd hx hb dL_all_64 ?_
        refine fs_vi (y := nI (1 + 6 * i)) (nI_add _ _) ?_
        refine lv_aload_n hx hb dL_all_65 rfl (lv_at hl 2 rfl) ?_
        refine lv_iload hx hb dL_all_66 (lv_at hl 4 rfl) ?_
        refine fs_iald E hP (k := 244) h_24 (by omega) (vp_in_nI (by omega) (by omega)) dL_all_68 ?_
        refine fs_vi (y := f1 i) (congrArg f1 (nI_clamp (by omega))) ?_
        refine fs_vi (y := (nI (wd (nB σ) mm i))) (hw1 _ (by omega)) ?_
        refine lv_iadd hx hb dL_all_69 ?_
        refine fs_vi (y := nI (1 + 6 * i + wd (nB σ) mm i)) (nI_add _ _) ?_
        refine lv_dup2_11 hx hb dL_all_70 rfl rfl ?_
        refine fs_iald E hP (k := 245) h_25 (by omega) (vp_in_nI (by omega) (by omega)) dL_all_71 ?_
        refine fs_vi (y := f3 (1 + 6 * i + wd (nB σ) mm i)) (congrArg f3 (nI_clamp (by omega))) ?_
        refine fs_vi (y := (nI (cN (lkq σ i (wd (nB σ) mm i)) mm))) (by have e0 := hJ.2.2.1 i (wd (nB σ) mm i) (by omega) (by omega); rw [if_neg (by omega)] at e0; exact e0) ?_
        refine lv_iconst (v := (nI 1)) hx hb dL_all_72 (by decide) ?_
        refine lv_iadd hx hb dL_all_73 ?_
        refine fs_vi (y := (nI (cN (lkq σ i (wd (nB σ) mm i)) (mm + 1)))) (by rw [cN_t (lk_hit hok)]; exact nI_add _ _) ?_
        refine fs_iast E hP hS (k := 245) h_25 (by omega) (vp_in_nI (by omega) (by omega)) dL_all_74 (fun ct_48 H locs q_49 hP hS => ?_)
        rw [nI_clamp (by omega)] at q_49
        have h_50 : ct_48 242 = .inl (fcI g, 60, .inl fr) := by rw [q_49]; exact (fu_ne (by omega)).trans h_22
        have h_51 : ct_48 243 = .inl (fcI g, 3, .inl fq) := by rw [q_49]; exact (fu_ne (by omega)).trans h_23
        have h_52 : ct_48 244 = .inl (fcI g, 6, .inl f1) := by rw [q_49]; exact (fu_ne (by omega)).trans h_24
        have h_53 : ct_48 245 = .inl (fcI g, 51, .inl (upd f3 (1 + 6 * i + wd (nB σ) mm i) (nI (cN (lkq σ i (wd (nB σ) mm i)) (mm + 1))))) := by rw [q_49]; exact fu_eq _ _ _
        refine lv_iconst (v := (nI 0)) hx hb dL_all_75 (by decide) ?_
        refine lv_istore (lv' := [(5, .int (nI 0)), (0, .ref (fa g 243)), (1, .ref (fa g 242)), (2, .ref (fa g 244)), (3, .ref (fa g 245)), (4, .int (nI i))]) hx hb dL_all_76 hl (by decide) rfl (fun ls hl => ?_)
        refine lv_iconst (v := (nI 0)) hx hb dL_all_78 (by decide) ?_
        refine lv_istore (lv' := [(6, .int (nI 0)), (5, .int (nI 0)), (0, .ref (fa g 243)), (1, .ref (fa g 242)), (2, .ref (fa g 244)), (3, .ref (fa g 245)), (4, .int (nI i))]) hx hb dL_all_79 hl (by decide) rfl (fun ls hl => ?_)
        refine fs_indP (g := g) (St := Nat) (fun (k : Nat) (ls : Array Slot) => lv_has ls 7 [(0, .ref (fa g 243)), (1, .ref (fa g 242)), (2, .ref (fa g 244)), (3, .ref (fa g 245)), (4, .int (nI i)), (5, .int (nI (cN (fun k => decide (wd (nB σ) mm k = i)) k))), (6, .int (nI k))] ∧ k ≤ nB σ) (fun (k : Nat) => nB σ - k) ?_ 0 ls _ ⟨lv_sub hl [2, 3, 4, 5, 6, 1, 0] rfl, Nat.zero_le _⟩ hS
        clear hl hS
        intro st ls locs hI hS ih2
        obtain ⟨k, rfl⟩ : ∃ z, z = st := ⟨_, rfl⟩
        obtain ⟨hl, hI⟩ := hI
        refine lv_iload hx hb dL_all_81 (lv_at hl 6 rfl) ?_
        refine lv_aload_n hx hb dL_all_83 rfl (lv_at hl 0 rfl) ?_
        refine lv_iconst (v := (nI 0)) hx hb dL_all_84 (by decide) ?_
        refine fs_iald E hP (k := 243) h_51 (by omega) (vp_in_nI (by omega) (by omega)) dL_all_85 ?_
        refine fs_vi (y := fq 0) (congrArg fq (nI_clamp (by omega))) ?_
        refine fs_vi (y := (nI (nB σ))) hQ.1 ?_
        refine lv_icmp_ge (tgt := 114) hx hb dL_all_86 (by decide) (fun c_86 => ?_) (fun c_86 => ?_)
        · rw [nI_leI (by omega) (by omega)] at c_86
          have hk9 : k = nB σ := by omega
          rw [hk9] at hl
          have hcn := cN_lt7 (p := fun k => decide (wd (nB σ) mm k = i)) hn6
          have hml := mwP_le (w := wd (nB σ) mm) hn6 (mwQ_lt hG mm) i (by omega)
          refine lv_iload hx hb dL_all_114 (lv_at hl 5 rfl) ?_
          refine lv_aload_n hx hb dL_all_116 rfl (lv_at hl 3 rfl) ?_
          refine lv_bipush (v := (nI 49)) hx hb dL_all_117 (by decide) ?_
          refine fs_iald E hP (k := 245) h_53 (by omega) (vp_in_nI (by omega) (by omega)) dL_all_119 ?_
          refine fs_vi (y := (upd f3 (1 + 6 * i + wd (nB σ) mm i) (nI (cN (lkq σ i (wd (nB σ) mm i)) (mm + 1)))) 49) (congrArg (upd f3 (1 + 6 * i + wd (nB σ) mm i) (nI (cN (lkq σ i (wd (nB σ) mm i)) (mm + 1)))) (nI_clamp (by omega))) ?_
          refine fs_vi (y := (nI (mwP (nB σ) (wd (nB σ) mm) (mwQ σ mm) i).2)) ((upd_ne (by omega)).trans hJ.2.2.2.2.2) ?_
          refine lv_icmp_lt (tgt := 156) hx hb dL_all_120 (by decide) (fun c_120 => ?_) (fun c_120 => ?_)
          · rw [nI_ltI (by omega) (by omega)] at c_120
            refine lv_iinc (v := (nI (i + 1))) (lv' := [(4, .int (nI (i + 1))), (0, .ref (fa g 243)), (1, .ref (fa g 242)), (2, .ref (fa g 244)), (3, .ref (fa g 245)), (5, .int (nI (cN (fun k => decide (wd (nB σ) mm k = i)) (nB σ)))), (6, .int (nI (nB σ)))]) hx hb dL_all_156 hl (k := 4) rfl (nI_1 _) (by decide) rfl (fun ls hl => ?_)
            refine lv_goto (tgt := 49) hx hb dL_all_159 (by decide) ?_
            exact ih1 (i + 1) _ _ ls _ (by omega) ⟨lv_sub hl [1, 2, 3, 4, 0] rfl, ⟨_, by rw [q_49, hc3, fu_fu], by omega, C1_no hG (by omega) hok hJ.2 (fun y => by omega)⟩⟩ hP hS
          · rw [nI_ltI (by omega) (by omega)] at c_120
            refine lv_iload hx hb dL_all_123 (lv_at hl 5 rfl) ?_
            refine lv_aload_n hx hb dL_all_125 rfl (lv_at hl 3 rfl) ?_
            refine lv_bipush (v := (nI 49)) hx hb dL_all_126 (by decide) ?_
            refine fs_iald E hP (k := 245) h_53 (by omega) (vp_in_nI (by omega) (by omega)) dL_all_128 ?_
            refine fs_vi (y := (upd f3 (1 + 6 * i + wd (nB σ) mm i) (nI (cN (lkq σ i (wd (nB σ) mm i)) (mm + 1)))) 49) (congrArg (upd f3 (1 + 6 * i + wd (nB σ) mm i) (nI (cN (lkq σ i (wd (nB σ) mm i)) (mm + 1)))) (nI_clamp (by omega))) ?_
            refine fs_vi (y := (nI (mwP (nB σ) (wd (nB σ) mm) (mwQ σ mm) i).2)) ((upd_ne (by omega)).trans hJ.2.2.2.2.2) ?_
            refine lv_icmp_ne (tgt := 144) hx hb dL_all_129 (by decide) (fun c_129 => ?_) (fun c_129 => ?_)
            · rw [nI_eq (by omega) (by omega)] at c_129
              refine lv_aload_n hx hb dL_all_144 rfl (lv_at hl 3 rfl) ?_
              refine lv_bipush (v := (nI 49)) hx hb dL_all_145 (by decide) ?_
              refine lv_iload hx hb dL_all_147 (lv_at hl 5 rfl) ?_
              refine fs_iast E hP hS (k := 245) h_53 (by omega) (vp_in_nI (by omega) (by omega)) dL_all_149 (fun ct_54 H locs q_55 hP hS => ?_)
              rw [nI_clamp (by omega)] at q_55
              have h_56 : ct_54 242 = .inl (fcI g, 60, .inl fr) := by rw [q_55]; exact (fu_ne (by omega)).trans h_50
              have h_57 : ct_54 243 = .inl (fcI g, 3, .inl fq) := by rw [q_55]; exact (fu_ne (by omega)).trans h_51
              have h_58 : ct_54 244 = .inl (fcI g, 6, .inl f1) := by rw [q_55]; exact (fu_ne (by omega)).trans h_52
              have h_59 : ct_54 245 = .inl (fcI g, 51, .inl (upd (upd f3 (1 + 6 * i + wd (nB σ) mm i) (nI (cN (lkq σ i (wd (nB σ) mm i)) (mm + 1)))) 49 (nI (cN (fun k => decide (wd (nB σ) mm k = i)) (nB σ))))) := by rw [q_55]; exact fu_eq _ _ _
              refine lv_aload_n hx hb dL_all_150 rfl (lv_at hl 3 rfl) ?_
              refine lv_bipush (v := (nI 50)) hx hb dL_all_151 (by decide) ?_
              refine lv_iload hx hb dL_all_153 (lv_at hl 4 rfl) ?_
              refine fs_iast E hP hS (k := 245) h_59 (by omega) (vp_in_nI (by omega) (by omega)) dL_all_155 (fun ct_60 H locs q_61 hP hS => ?_)
              rw [nI_clamp (by omega)] at q_61
              have h_62 : ct_60 242 = .inl (fcI g, 60, .inl fr) := by rw [q_61]; exact (fu_ne (by omega)).trans h_56
              have h_63 : ct_60 243 = .inl (fcI g, 3, .inl fq) := by rw [q_61]; exact (fu_ne (by omega)).trans h_57
              have h_64 : ct_60 244 = .inl (fcI g, 6, .inl f1) := by rw [q_61]; exact (fu_ne (by omega)).trans h_58
              have h_65 : ct_60 245 = .inl (fcI g, 51, .inl (upd (upd (upd f3 (1 + 6 * i + wd (nB σ) mm i) (nI (cN (lkq σ i (wd (nB σ) mm i)) (mm + 1)))) 49 (nI (cN (fun k => decide (wd (nB σ) mm k = i)) (nB σ)))) 50 (nI i))) := by rw [q_61]; exact fu_eq _ _ _
              refine lv_iinc (v := (nI (i + 1))) (lv' := [(4, .int (nI (i + 1))), (0, .ref (fa g 243)), (1, .ref (fa g 242)), (2, .ref (fa g 244)), (3, .ref (fa g 245)), (5, .int (nI (cN (fun k => decide (wd (nB σ) mm k = i)) (nB σ)))), (6, .int (nI (nB σ)))]) hx hb dL_all_156 hl (k := 4) rfl (nI_1 _) (by decide) rfl (fun ls hl => ?_)
              refine lv_goto (tgt := 49) hx hb dL_all_159 (by decide) ?_
              exact ih1 (i + 1) _ _ ls _ (by omega) ⟨lv_sub hl [1, 2, 3, 4, 0] rfl, ⟨_, by rw [q_61, q_55, q_49, hc3, fu_fu, fu_fu, fu_fu], by omega, C1_yes hG h12 (by omega) hok hJ.2 (Or.inl (by omega))⟩⟩ hP hS
            · rw [nI_eq (by omega) (by omega)] at c_129
              refine lv_iload hx hb dL_all_132 (lv_at hl 4 rfl) ?_
              refine lv_aload_n hx hb dL_all_134 rfl (lv_at hl 3 rfl) ?_
              refine lv_bipush (v := (nI 50)) hx hb dL_all_135 (by decide) ?_
              refine fs_iald E hP (k := 245) h_53 (by omega) (vp_in_nI (by omega) (by omega)) dL_all_137 ?_
              refine fs_vi (y := (upd f3 (1 + 6 * i + wd (nB σ) mm i) (nI (cN (lkq σ i (wd (nB σ) mm i)) (mm + 1)))) 50) (congrArg (upd f3 (1 + 6 * i + wd (nB σ) mm i) (nI (cN (lkq σ i (wd (nB σ) mm i)) (mm + 1)))) (nI_clamp (by omega))) ?_
              refine fs_vi (y := (nI (mwP (nB σ) (wd (nB σ) mm) (mwQ σ mm) i).1)) ((upd_ne (by omega)).trans hJ.2.2.2.2.1) ?_
              refine lv_icmp_lt (tgt := 144) hx hb dL_all_138 (by decide) (fun c_138 => ?_) (fun c_138 => ?_)
              · rw [nI_ltI (by omega) (by omega)] at c_138
                refine lv_aload_n hx hb dL_all_144 rfl (lv_at hl 3 rfl) ?_
                refine lv_bipush (v := (nI 49)) hx hb dL_all_145 (by decide) ?_
                refine lv_iload hx hb dL_all_147 (lv_at hl 5 rfl) ?_
                refine fs_iast E hP hS (k := 245) h_53 (by omega) (vp_in_nI (by omega) (by omega)) dL_all_149 (fun ct_66 H locs q_67 hP hS => ?_)
                rw [nI_clamp (by omega)] at q_67
                have h_68 : ct_66 242 = .inl (fcI g, 60, .inl fr) := by rw [q_67]; exact (fu_ne (by omega)).trans h_50
                have h_69 : ct_66 243 = .inl (fcI g, 3, .inl fq) := by rw [q_67]; exact (fu_ne (by omega)).trans h_51
                have h_70 : ct_66 244 = .inl (fcI g, 6, .inl f1) := by rw [q_67]; exact (fu_ne (by omega)).trans h_52
                have h_71 : ct_66 245 = .inl (fcI g, 51, .inl (upd (upd f3 (1 + 6 * i + wd (nB σ) mm i) (nI (cN (lkq σ i (wd (nB σ) mm i)) (mm + 1)))) 49 (nI (cN (fun k => decide (wd (nB σ) mm k = i)) (nB σ))))) := by rw [q_67]; exact fu_eq _ _ _
                refine lv_aload_n hx hb dL_all_150 rfl (lv_at hl 3 rfl) ?_
                refine lv_bipush (v := (nI 50)) hx hb dL_all_151 (by decide) ?_
                refine lv_iload hx hb dL_all_153 (lv_at hl 4 rfl) ?_
                refine fs_iast E hP hS (k := 245) h_71 (by omega) (vp_in_nI (by omega) (by omega)) dL_all_155 (fun ct_72 H locs q_73 hP hS => ?_)
                rw [nI_clamp (by omega)] at q_73
                have h_74 : ct_72 242 = .inl (fcI g, 60, .inl fr) := by rw [q_73]; exact (fu_ne (by omega)).trans h_68
                have h_75 : ct_72 243 = .inl (fcI g, 3, .inl fq) := by rw [q_73]; exact (fu_ne (by omega)).trans h_69
                have h_76 : ct_72 244 = .inl (fcI g, 6, .inl f1) := by rw [q_73]; exact (fu_ne (by omega)).trans h_70
                have h_77 : ct_72 245 = .inl (fcI g, 51, .inl (upd (upd (upd f3 (1 + 6 * i + wd (nB σ) mm i) (nI (cN (lkq σ i (wd (nB σ) mm i)) (mm + 1)))) 49 (nI (cN (fun k => decide (wd (nB σ) mm k = i)) (nB σ)))) 50 (nI i))) := by rw [q_73]; exact fu_eq _ _ _
                refine lv_iinc (v := (nI (i + 1))) (lv' := [(4, .int (nI (i + 1))), (0, .ref (fa g 243)), (1, .ref (fa g 242)), (2, .ref (fa g 244)), (3, .ref (fa g 245)), (5, .int (nI (cN (fun k => decide (wd (nB σ) mm k = i)) (nB σ)))), (6, .int (nI (nB σ)))]) hx hb dL_all_156 hl (k := 4) rfl (nI_1 _) (by decide) rfl (fun ls hl => ?_)
                refine lv_goto (tgt := 49) hx hb dL_all_159 (by decide) ?_
                exact ih1 (i + 1) _ _ ls _ (by omega) ⟨lv_sub hl [1, 2, 3, 4, 0] rfl, ⟨_, by rw [q_73, q_67, q_49, hc3, fu_fu, fu_fu, fu_fu], by omega, C1_yes hG h12 (by omega) hok hJ.2 (Or.inr ⟨by omega, by omega⟩)⟩⟩ hP hS
              · rw [nI_ltI (by omega) (by omega)] at c_138
                refine lv_goto (tgt := 156) hx hb dL_all_141 (by decide) ?_
                refine lv_iinc (v := (nI (i + 1))) (lv' := [(4, .int (nI (i + 1))), (0, .ref (fa g 243)), (1, .ref (fa g 242)), (2, .ref (fa g 244)), (3, .ref (fa g 245)), (5, .int (nI (cN (fun k => decide (wd (nB σ) mm k = i)) (nB σ)))), (6, .int (nI (nB σ)))]) hx hb dL_all_156 hl (k := 4) rfl (nI_1 _) (by decide) rfl (fun ls hl => ?_)
                refine lv_goto (tgt := 49) hx hb dL_all_159 (by decide) ?_
                exact ih1 (i + 1) _ _ ls _ (by omega) ⟨lv_sub hl [1, 2, 3, 4, 0] rfl, ⟨_, by rw [q_49, hc3, fu_fu], by omega, C1_no hG (by omega) hok hJ.2 (fun y => by omega)⟩⟩ hP hS
        · rw [nI_leI (by omega) (by omega)] at c_86
          have hwk := (wd_ok hn3 mm) k (show k < nB σ by omega)
          refine lv_iload hx hb dL_all_89 (lv_at hl 5 rfl) ?_
          refine lv_aload_n hx hb dL_all_91 rfl (lv_at hl 2 rfl) ?_
          refine lv_iload hx hb dL_all_92 (lv_at hl 6 rfl) ?_
          refine fs_iald E hP (k := 244) h_52 (by omega) (vp_in_nI (by omega) (by omega)) dL_all_94 ?_
          refine fs_vi (y := f1 k) (congrArg f1 (nI_clamp (by omega))) ?_
          refine fs_vi (y := (nI (wd (nB σ) mm k))) (hw1 _ (by omega)) ?_
          refine lv_iload hx hb dL_all_95 (lv_at hl 4 rfl) ?_
          refine lv_icmp_ne (tgt := 104) hx hb dL_all_97 (by decide) (fun c_97 => ?_) (fun c_97 => ?_)
          · rw [nI_eq (by omega) (by omega)] at c_97
            refine lv_iconst (v := (nI 0)) hx hb dL_all_104 (by decide) ?_
            refine lv_iadd hx hb dL_all_105 ?_
            refine fs_vi (y := (nI (cN (fun k => decide (wd (nB σ) mm k = i)) (k + 1)))) (by rw [cN_f (decide_eq_false c_97)]; exact nI_add _ 0) ?_
            refine lv_istore (lv' := [(5, .int (nI (cN (fun k => decide (wd (nB σ) mm k = i)) (k + 1)))), (0, .ref (fa g 243)), (1, .ref (fa g 242)), (2, .ref (fa g 244)), (3, .ref (fa g 245)), (4, .int (nI i)), (6, .int (nI k))]) hx hb dL_all_106 hl (by decide) rfl (fun ls hl => ?_)
            refine lv_iinc (v := (nI (k + 1))) (lv' := [(6, .int (nI (k + 1))), (5, .int (nI (cN (fun k => decide (wd (nB σ) mm k = i)) (k + 1)))), (0, .ref (fa g 243)), (1, .ref (fa g 242)), (2, .ref (fa g 244)), (3, .ref (fa g 245)), (4, .int (nI i))]) hx hb dL_all_108 hl (k := 6) rfl (nI_1 _) (by decide) rfl (fun ls hl => ?_)
            refine lv_goto (tgt := 81) hx hb dL_all_111 (by decide) ?_
            exact ih2 (k + 1) ls _ (by (try dsimp only); omega) ⟨lv_sub hl [2, 3, 4, 5, 6, 1, 0] rfl, by omega⟩ hS
          · rw [nI_eq (by omega) (by omega)] at c_97
            refine lv_iconst (v := (nI 1)) hx hb dL_all_100 (by decide) ?_
            refine lv_goto (tgt := 105) hx hb dL_all_101 (by decide) ?_
            refine lv_iadd hx hb dL_all_105 ?_
            refine fs_vi (y := (nI (cN (fun k => decide (wd (nB σ) mm k = i)) (k + 1)))) (by rw [cN_t (decide_eq_true c_97)]; exact nI_add _ _) ?_
            refine lv_istore (lv' := [(5, .int (nI (cN (fun k => decide (wd (nB σ) mm k = i)) (k + 1)))), (0, .ref (fa g 243)), (1, .ref (fa g 242)), (2, .ref (fa g 244)), (3, .ref (fa g 245)), (4, .int (nI i)), (6, .int (nI k))]) hx hb dL_all_106 hl (by decide) rfl (fun ls hl => ?_)
            refine lv_iinc (v := (nI (k + 1))) (lv' := [(6, .int (nI (k + 1))), (5, .int (nI (cN (fun k => decide (wd (nB σ) mm k = i)) (k + 1)))), (0, .ref (fa g 243)), (1, .ref (fa g 242)), (2, .ref (fa g 244)), (3, .ref (fa g 245)), (4, .int (nI i))]) hx hb dL_all_108 hl (k := 6) rfl (nI_1 _) (by decide) rfl (fun ls hl => ?_)
            refine lv_goto (tgt := 81) hx hb dL_all_111 (by decide) ?_
            exact ih2 (k + 1) ls _ (by (try dsimp only); omega) ⟨lv_sub hl [2, 3, 4, 5, 6, 1, 0] rfl, by omega⟩ hS
    · have c_33 := (fb_0 p30).mp c_33
      have hno : okq σ mm = false := Bool.eq_false_iff.mpr c_33
      have hC9 := CO_skip hC hno
      refine lv_goto (tgt := 207) hx hb dL_all_36 (by decide) ?_
      refine lv_aload_n hx hb dL_all_207 rfl (lv_at hl 0 rfl) ?_
      refine lv_aload_n hx hb dL_all_208 rfl (lv_at hl 2 rfl) ?_
      refine fs_i (va_runS (As := [.ref (fa g 243), .ref (fa g 244)]) (rest := []) E.1 (c_L_next l g N ct_14 σ (by omega) hG fq hcq9 hQ f1 h44 mm hm hw1) (lk_RL_28 E.1.2.2.2.2 ⟨Nat.le_of_ble_eq_true rfl, Nat.le_of_ble_eq_true rfl⟩) (fpreS E hP hS) rfl rfl hl.1 rfl (lv_room (Nat.le_of_ble_eq_true rfl)) dL_all_209 ⟨Nat.zero_le _, Nat.zero_le _⟩) hS (fun r_209 ct_78 H locs p_209 hP hS => ?_)
      obtain ⟨f5, e5, h5⟩ := p_209
      have h_79 : ct_78 242 = .inl (fcI g, 60, .inl fr) := by rw [e5]; exact (fu_ne (by omega)).trans hcr9
      have h_80 : ct_78 243 = .inl (fcI g, 3, .inl fq) := by rw [e5]; exact (fu_ne (by omega)).trans hcq9
      have h_81 : ct_78 244 = .inl (fcI g, 6, .inl f5) := by rw [e5]; exact fu_eq _ _ _
      have h_82 : ct_78 245 = .inl (fcI g, 51, .inl f2) := by rw [e5]; exact (fu_ne (by omega)).trans h45
      rcases h5 with ⟨hm5, rfl, hw5⟩ | ⟨hm5, rfl⟩
      · refine lv_if_ne (tgt := 26) hx hb dL_all_212 (by decide) (fun c_212 => ?_) (fun c_212 => ?_)
        rotate_left
        · exact absurd c_212 (by decide)
        exact ihm (mm + 1) _ _ ls _ (by (try dsimp only); omega) ⟨lv_sub hl [0, 1, 2, 3] rfl, hm5, ⟨f5, h_81, hw5⟩, ⟨_, h_82, hC9⟩, (show fSame 244 246 ct ct_78 from (fSame.ap (fSame.tr2 fSame.rf hs9 (by omega) (by omega)) e5 (by omega) (by omega)))⟩ hP hS
      · refine lv_if_ne (tgt := 26) hx hb dL_all_212 (by decide) (fun c_212 => ?_) (fun c_212 => ?_)
        · exact absurd c_212 (by decide)
        refine fs_vret E hr hlk hP hS dL_all_215 ?_
        exact ⟨⟨_, h_81⟩, ⟨_, h_82, by rw [← hm5]; exact hC9⟩, (show fSame 244 246 ct ct_78 from (fSame.ap (fSame.tr2 fSame.rf hs9 (by omega) (by omega)) e5 (by omega) (by omega)))⟩
  · rw [nI_leI (by omega) (by omega)] at c_7
    refine lv_aload_n hx hb dL_all_10 rfl (lv_at hl 3 rfl) ?_
    refine lv_iload hx hb dL_all_11 (lv_at hl 4 rfl) ?_
    refine lv_iconst (v := (nI 0)) hx hb dL_all_13 (by decide) ?_
    refine fs_iast E hP hS (k := 245) h_5 (by omega) (vp_in_nI (by omega) (by omega)) dL_all_14 (fun ct_83 H locs q_84 hP hS => ?_)
    rw [nI_clamp (by omega)] at q_84
    have h_85 : ct_83 242 = .inl (fcI g, 60, .inl fr) := by rw [q_84]; exact (fu_ne (by omega)).trans h_2
    have h_86 : ct_83 243 = .inl (fcI g, 3, .inl fq) := by rw [q_84]; exact (fu_ne (by omega)).trans h_3
    have h_87 : ct_83 244 = .inl (fcI g, 6, .inl fw) := by rw [q_84]; exact (fu_ne (by omega)).trans h_4
    have h_88 : ct_83 245 = .inl (fcI g, 51, .inl (upd fz i (nI 0))) := by rw [q_84]; exact fu_eq _ _ _
    refine lv_iinc (v := (nI (i + 1))) (lv' := [(4, .int (nI (i + 1))), (0, .ref (fa g 243)), (1, .ref (fa g 242)), (2, .ref (fa g 244)), (3, .ref (fa g 245))]) hx hb dL_all_15 hl (k := 4) rfl (nI_1 _) (by decide) rfl (fun ls hl => ?_)
    refine lv_goto (tgt := 3) hx hb dL_all_18 (by decide) ?_
    exact ih (i + 1) _ _ ls _ (by omega) ⟨lv_sub hl [1, 2, 3, 4, 0] rfl, ⟨_, by rw [q_84, hcz, fu_fu], by omega, fun p hp => (Nat.lt_or_ge p i).elim (fun q => (upd_ne (by omega)).trans (hI.2 p q)) (fun q => by rw [show p = i by omega]; exact upd_eq _ _ _)⟩⟩ hP hS

set_option maxRecDepth 100000 in
set_option maxHeartbeats 4000000 in
theorem c_L_without (l : Launch) (g : fG) (N : Nat) (ct : Nat → va_E) (σ : Nat → Int32) (hN : 246 ≤ N) (hG : Good σ) (h12 : nT σ ≤ 12) (fr : Nat → Int32) (hcr : ct 242 = .inl (fcI g, 60, .inl fr)) (hR : LR σ fr) (fq : Nat → Int32) (hcq : ct 243 = .inl (fcI g, 3, .inl fq)) (hQ : fq 0 = nI (nB σ) ∧ fq 1 = nI (nT σ)) (fw : Nat → Int32) (hcw : ct 244 = .inl (fcI g, 6, .inl fw)) (x : Int32) : Met l yL_without (wsU yL_without cL_without 5 (some .int)) rL_without (fPre g N ct [.int x, .ref (fa g 243), .ref (fa g 242), .ref (fa g 244)]) (fQi g N (fun r ct1 => r = nI (cN (wo1 σ x) (mM σ)) ∧ (∃ f1 : Nat → Int32, ct1 244 = .inl (fcI g, 6, .inl f1)) ∧ fSame 244 245 ct ct1)) 0 0 (fB g) := by
  refine fs_start (own := RL) (lv0 := [(0, .int x), (1, .ref (fa g 243)), (2, .ref (fa g 242)), (3, .ref (fa g 244))]) (by decide) rfl (Nat.le_of_ble_eq_true rfl) rfl ?_
  intro p e s m args below meth c ls E hr hlk hnm hP hl hS
  have hx := E.1.1
  have hb := E.1.2.1
  have hn3 := hG.n3
  have hn6 := hG.n6
  have hM := hG.M
  refine lv_iconst (v := (nI 0)) hx hb dL_without_0 (by decide) ?_
  refine lv_istore (lv' := [(4, .int (nI 0)), (0, .int x), (1, .ref (fa g 243)), (2, .ref (fa g 242)), (3, .ref (fa g 244))]) hx hb dL_without_1 hl (by decide) rfl (fun ls hl => ?_)
  refine lv_aload_n hx hb dL_without_3 rfl (lv_at hl 2 rfl) ?_
  refine lv_aload_n hx hb dL_without_4 rfl (lv_at hl 4 rfl) ?_
  refine fs_v (va_runS (As := [.ref (fa g 243), .ref (fa g 244)]) (rest := []) E.1 (c_L_first l g N ct σ (by omega) hG fq hcq hQ fw hcw) (lk_RL_20 E.1.2.2.2.2 ⟨Nat.le_of_ble_eq_true rfl, Nat.le_of_ble_eq_true rfl⟩) (fpreS E hP hS) rfl rfl hl.1 rfl (lv_room (Nat.le_of_ble_eq_true rfl)) dL_without_5 ⟨Nat.zero_le _, Nat.zero_le _⟩) hS (fun ct_1 H locs p_5 hP hS => ?_)
  obtain ⟨f_2, e_3, h_4⟩ := p_5
  have h_5 : ct_1 242 = .inl (fcI g, 60, .inl fr) := by rw [e_3]; exact (fu_ne (by omega)).trans hcr
  have h_6 : ct_1 243 = .inl (fcI g, 3, .inl fq) := by rw [e_3]; exact (fu_ne (by omega)).trans hcq
  have h_7 : ct_1 244 = .inl (fcI g, 6, .inl f_2) := by rw [e_3]; exact fu_eq _ _ _
  refine fs_ind (g := g) (N := N) (St := Nat) (fun (mm : Nat) (ct_8 : Nat → va_E) (ls : Array Slot) => lv_has ls 5 [(0, .int x), (1, .ref (fa g 243)), (2, .ref (fa g 242)), (3, .ref (fa g 244)), (4, .int (nI (cN (wo1 σ x) mm)))] ∧ mm < mM σ ∧ (∃ f1 : Nat → Int32, ct_8 244 = .inl (fcI g, 6, .inl f1) ∧ ∀ p, p < nB σ → f1 p = nI (wd (nB σ) mm p)) ∧ fSame 244 245 ct ct_8) (fun (mm : Nat) => mM σ - mm) ?_ 0 _ _ ls _ ⟨lv_sub hl [1, 2, 3, 4, 0] rfl, hM.2, ⟨_, h_7, h_4⟩, (show fSame 244 245 ct ct_1 from (fSame.ap fSame.rf e_3 (by omega) (by omega)))⟩ hP hS
  clear hl hP hS
  intro st ct_8 H ls locs hI hP hS ihm
  obtain ⟨mm, rfl⟩ : ∃ z, z = st := ⟨_, rfl⟩
  obtain ⟨hl, hI⟩ := hI
  obtain ⟨hm, ⟨f1, h44, hw1⟩, hs9⟩ := hI
  have hcr9 : ct_8 242 = .inl (fcI g, 60, .inl fr) := (hs9 _ (by omega)).trans hcr
  have hcq9 : ct_8 243 = .inl (fcI g, 3, .inl fq) := (hs9 _ (by omega)).trans hcq
  refine lv_iload hx hb dL_without_8 (lv_at hl 4 rfl) ?_
  refine lv_aload_n hx hb dL_without_10 rfl (lv_at hl 1 rfl) ?_
  refine lv_aload_n hx hb dL_without_11 rfl (lv_at hl 2 rfl) ?_
  refine lv_aload_n hx hb dL_without_12 rfl (lv_at hl 3 rfl) ?_
  refine lv_iload_n hx hb dL_without_13 rfl (lv_at hl 0 rfl) ?_
  refine fs_pi (va_runS (As := [.ref (fa g 243), .ref (fa g 242), .ref (fa g 244), .int x]) (rest := [.int (nI (cN (wo1 σ x) mm))]) E.1 (c_L_may l g N ct_8 σ (by omega) hG h12 fr hcr9 hR fq hcq9 hQ 244 f1 (wd (nB σ) mm) (by omega) hw1 (wd_ok hn3 mm) h44 x) (lk_RL_24 E.1.2.2.2.2 ⟨Nat.le_of_ble_eq_true rfl, Nat.le_of_ble_eq_true rfl⟩) (fpreS E hP hS) rfl rfl hl.1 rfl (lv_room (Nat.le_of_ble_eq_true rfl)) dL_without_14 ⟨Nat.zero_le _, Nat.zero_le _⟩) hS (fun r_14 locs p_14 hS => ?_)
  refine lv_if_eq (tgt := 24) hx hb dL_without_17 (by decide) (fun c_17 => ?_) (fun c_17 => ?_)
  · have c_17 := (fb_0 p_14).mp c_17
    refine lv_iconst (v := (nI 0)) hx hb dL_without_24 (by decide) ?_
    refine lv_iadd hx hb dL_without_25 ?_
    refine fs_vi (y := (nI (cN (wo1 σ x) (mm + 1)))) (by rw [cN_f (decide_eq_false c_17)]; exact nI_add _ 0) ?_
    refine lv_istore (lv' := [(4, .int (nI (cN (wo1 σ x) (mm + 1)))), (0, .int x), (1, .ref (fa g 243)), (2, .ref (fa g 242)), (3, .ref (fa g 244))]) hx hb dL_without_26 hl (by decide) rfl (fun ls hl => ?_)
    refine lv_aload_n hx hb dL_without_28 rfl (lv_at hl 2 rfl) ?_
    refine lv_aload_n hx hb dL_without_29 rfl (lv_at hl 4 rfl) ?_
    refine fs_i (va_runS (As := [.ref (fa g 243), .ref (fa g 244)]) (rest := []) E.1 (c_L_next l g N ct_8 σ (by omega) hG fq hcq9 hQ f1 h44 mm hm hw1) (lk_RL_28 E.1.2.2.2.2 ⟨Nat.le_of_ble_eq_true rfl, Nat.le_of_ble_eq_true rfl⟩) (fpreS E hP hS) rfl rfl hl.1 rfl (lv_room (Nat.le_of_ble_eq_true rfl)) dL_without_30 ⟨Nat.zero_le _, Nat.zero_le _⟩) hS (fun r_30 ct_9 H locs p_30 hP hS => ?_)
    obtain ⟨f5, e5, h5⟩ := p_30
    have h_10 : ct_9 242 = .inl (fcI g, 60, .inl fr) := by rw [e5]; exact (fu_ne (by omega)).trans hcr9
    have h_11 : ct_9 243 = .inl (fcI g, 3, .inl fq) := by rw [e5]; exact (fu_ne (by omega)).trans hcq9
    have h_12 : ct_9 244 = .inl (fcI g, 6, .inl f5) := by rw [e5]; exact fu_eq _ _ _
    rcases h5 with ⟨hm5, rfl, hw5⟩ | ⟨hm5, rfl⟩
    · refine lv_if_ne (tgt := 8) hx hb dL_without_33 (by decide) (fun c_33 => ?_) (fun c_33 => ?_)
      rotate_left
      · exact absurd c_33 (by decide)
      exact ihm (mm + 1) _ _ ls _ (by (try dsimp only); omega) ⟨lv_sub hl [1, 2, 3, 4, 0] rfl, hm5, ⟨f5, h_12, hw5⟩, (show fSame 244 245 ct ct_9 from (fSame.ap (fSame.tr2 fSame.rf hs9 (by omega) (by omega)) e5 (by omega) (by omega)))⟩ hP hS
    · refine lv_if_ne (tgt := 8) hx hb dL_without_33 (by decide) (fun c_33 => ?_) (fun c_33 => ?_)
      · exact absurd c_33 (by decide)
      refine lv_iload hx hb dL_without_36 (lv_at hl 0 rfl) ?_
      refine fs_iret E hr hlk hP hS dL_without_38 ?_
      exact ⟨by rw [hm5], ⟨_, h_12⟩, (show fSame 244 245 ct ct_9 from (fSame.ap (fSame.tr2 fSame.rf hs9 (by omega) (by omega)) e5 (by omega) (by omega)))⟩
  · have c_17 := (fb_1 p_14).mp c_17
    refine lv_iconst (v := (nI 1)) hx hb dL_without_20 (by decide) ?_
    refine lv_goto (tgt := 25) hx hb dL_without_21 (by decide) ?_
    refine lv_iadd hx hb dL_without_25 ?_
    refine fs_vi (y := (nI (cN (wo1 σ x) (mm + 1)))) (by rw [cN_t (decide_eq_true c_17)]; exact nI_add _ _) ?_
    refine lv_istore (lv' := [(4, .int (nI (cN (wo1 σ x) (mm + 1)))), (0, .int x), (1, .ref (fa g 243)), (2, .ref (fa g 242)), (3, .ref (fa g 244))]) hx hb dL_without_26 hl (by decide) rfl (fun ls hl => ?_)
    refine lv_aload_n hx hb dL_without_28 rfl (lv_at hl 2 rfl) ?_
    refine lv_aload_n hx hb dL_without_29 rfl (lv_at hl 4 rfl) ?_
    refine fs_i (va_runS (As := [.ref (fa g 243), .ref (fa g 244)]) (rest := []) E.1 (c_L_next l g N ct_8 σ (by omega) hG fq hcq9 hQ f1 h44 mm hm hw1) (lk_RL_28 E.1.2.2.2.2 ⟨Nat.le_of_ble_eq_true rfl, Nat.le_of_ble_eq_true rfl⟩) (fpreS E hP hS) rfl rfl hl.1 rfl (lv_room (Nat.le_of_ble_eq_true rfl)) dL_without_30 ⟨Nat.zero_le _, Nat.zero_le _⟩) hS (fun r_30 ct_13 H locs p_30 hP hS => ?_)
    obtain ⟨f5, e5, h5⟩ := p_30
    have h_14 : ct_13 242 = .inl (fcI g, 60, .inl fr) := by rw [e5]; exact (fu_ne (by omega)).trans hcr9
    have h_15 : ct_13 243 = .inl (fcI g, 3, .inl fq) := by rw [e5]; exact (fu_ne (by omega)).trans hcq9
    have h_16 : ct_13 244 = .inl (fcI g, 6, .inl f5) := by rw [e5]; exact fu_eq _ _ _
    rcases h5 with ⟨hm5, rfl, hw5⟩ | ⟨hm5, rfl⟩
    · refine lv_if_ne (tgt := 8) hx hb dL_without_33 (by decide) (fun c_33 => ?_) (fun c_33 => ?_)
      rotate_left
      · exact absurd c_33 (by decide)
      exact ihm (mm + 1) _ _ ls _ (by (try dsimp only); omega) ⟨lv_sub hl [1, 2, 3, 4, 0] rfl, hm5, ⟨f5, h_16, hw5⟩, (show fSame 244 245 ct ct_13 from (fSame.ap (fSame.tr2 fSame.rf hs9 (by omega) (by omega)) e5 (by omega) (by omega)))⟩ hP hS
    · refine lv_if_ne (tgt := 8) hx hb dL_without_33 (by decide) (fun c_33 => ?_) (fun c_33 => ?_)
      · exact absurd c_33 (by decide)
      refine lv_iload hx hb dL_without_36 (lv_at hl 0 rfl) ?_
      refine fs_iret E hr hlk hP hS dL_without_38 ?_
      exact ⟨by rw [hm5], ⟨_, h_16⟩, (show fSame 244 245 ct ct_13 from (fSame.ap (fSame.tr2 fSame.rf hs9 (by omega) (by omega)) e5 (by omega) (by omega)))⟩
