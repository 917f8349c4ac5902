/-- the character at a place, -1 behind the end -/
def chF (t : Nat → Nat) (len i : Nat) : Int32 := if i < len then nI (t i) else -1
theorem chF_eq {t : Nat → Nat} {len a c0 : Nat} (h128 : ∀ i, i < len → t i < 128) (hc : c0 < 128) : chF t len a = nI c0 ↔ (a < len ∧ t a = c0) := by
  unfold chF
  by_cases h : a < len
  · have := h128 a h
    rw [if_pos h, nI_eq (by omega) (by omega)]; exact ⟨fun e => ⟨h, e⟩, fun e => e.2⟩
  · rw [if_neg h]; exact ⟨fun e => absurd e.symm (nI_ne_m1 (by omega)), fun e => absurd e.1 h⟩
theorem lo48 : ∀ c, c < 48 → (nI c - nI 48).toInt < 0 := by decide +kernel
theorem chF_dg {t : Nat → Nat} {len a mm : Nat} (h128 : ∀ i, i < len → t i < 128) (hm : mm < 10) : ((nI 0).toInt ≤ (chF t len a - nI 48).toInt ∧ (chF t len a - nI 48).toInt ≤ (nI mm).toInt) ↔ (a < len ∧ 48 ≤ t a ∧ t a ≤ 48 + mm) := by
  have e0 : (nI 0).toInt = 0 := rfl
  have em : (nI mm).toInt = (mm : Int) := nI_toInt (by omega)
  rw [e0, em]
  unfold chF
  by_cases h : a < len
  · have := h128 a h
    rw [if_pos h]
    by_cases q : 48 ≤ t a
    · rw [pk_sub q, nI_toInt (by omega)]; omega
    · have := lo48 (t a) (by omega); omega
  · rw [if_neg h]
    have : ((-1 : Int32) - nI 48).toInt < 0 := by decide
    omega
theorem chF_dv {t : Nat → Nat} {len a : Nat} (h : a < len) (q : 48 ≤ t a) : chF t len a - nI 48 = nI (t a - 48) := by unfold chF; rw [if_pos h, pk_sub q]
theorem chF_sb {t : Nat → Nat} {len a x : Nat} (h128 : ∀ i, i < len → t i < 128) (hx : x < 128) (q : 48 ≤ x) : chF t len a - nI 48 = nI (x - 48) ↔ (a < len ∧ t a = x) := by
  rw [← chF_eq h128 hx, ← pk_sub q]
  constructor
  · intro e
    have e2 := congrArg (fun y => y + nI 48) e
    simpa only [Int32.sub_add_cancel] using e2
  · intro e; rw [e]
theorem chF_k {t : Nat → Nat} {len a c kk : Nat} (h128 : ∀ i, i < len → t i < 128) (hc : c < 128) (hk : kdn c = kk) (e : chF t len a = nI c) : a < len ∧ kdn (t a) = kk := by
  have z := (chF_eq h128 hc).mp e
  exact ⟨z.1, by rw [z.2]; exact hk⟩
theorem chF_nk {t : Nat → Nat} {len a : Nat} (h128 : ∀ i, i < len → t i < 128) (h0 : ¬ chF t len a = nI 62) (h1 : ¬ chF t len a = nI 47) (h2 : ¬ chF t len a = nI 61) (h3 : ¬ chF t len a = nI 126) (h4 : ¬ chF t len a = nI 35) (h5 : ¬ chF t len a = nI 42) : ¬ (a < len ∧ kdn (t a) < 6) := by
  rintro ⟨h, k⟩
  have n : ∀ c, c < 128 → ¬ chF t len a = nI c → ¬ t a = c := fun c hc hh e => hh ((chF_eq h128 hc).mpr ⟨h, e⟩)
  unfold kdn at k
  rw [if_neg (n 62 (by omega) h0), if_neg (n 47 (by omega) h1), if_neg (n 61 (by omega) h2), if_neg (n 126 (by omega) h3), if_neg (n 35 (by omega) h4), if_neg (n 42 (by omega) h5)] at k
  omega
/-! a rumour that is read -/
abbrev RdOk (t : Nat → Nat) (len a : Nat) : Prop := a + 5 ≤ len ∧ ∀ i, a ≤ i → i < a + 5 → csa t i = true
abbrev RdNo (t : Nat → Nat) (len a b : Nat) : Prop := b < a + 5 ∧ a ≤ b ∧ (∀ i, a ≤ i → i < b → i < len ∧ csa t i = true) ∧ (b < len → csa t b = false)
theorem RdNo_of {t : Nat → Nat} {len a k : Nat} (hk : k < 5) (h : ∀ j, j < k → a + j < len ∧ csa t (a + j) = true) (hn : ¬ (a + k < len ∧ csa t (a + k) = true)) : RdNo t len a (a + k) :=
  ⟨by omega, by omega, fun i h1 h2 => by have := h (i - a) (by omega); rw [show a + (i - a) = i by omega] at this; exact this, fun h1 => Bool.eq_false_iff.mpr (fun z => hn ⟨h1, z⟩)⟩
section RDS
variable {t : Nat → Nat} {len a : Nat}
theorem ra0 (h6 : a % 6 = 0) : csa t a = true ↔ (48 ≤ t a ∧ t a ≤ 48 + 5) := by rw [csa_0 (by omega)]; unfold isD; exact decide_eq_true_iff
theorem ra1 (h6 : a % 6 = 0) : csa t (a + 1) = true ↔ t (a + 1) = 58 := by rw [csa_1 (by omega)]; exact decide_eq_true_iff
theorem ra2 (h6 : a % 6 = 0) : csa t (a + 2) = true ↔ (48 ≤ t (a + 2) ∧ t (a + 2) ≤ 48 + 5) := by rw [csa_2 (by omega)]; unfold isD; exact decide_eq_true_iff
theorem ra3 (h6 : a % 6 = 0) : csa t (a + 3) = true ↔ kdn (t (a + 3)) < 6 := by rw [csa_3 (by omega)]; exact decide_eq_true_iff
theorem ra4 (h6 : a % 6 = 0) : csa t (a + 4) = true ↔ cbB (t (a + 4)) (t (a + 2)) (kdn (t (a + 3))) = true := by rw [csa_4 (by omega)]; exact Iff.rfl
theorem ra5 (h6 : a % 6 = 0) : csa t (a + 5) = true ↔ t (a + 5) = 44 := by rw [csa_5 (by omega)]; exact decide_eq_true_iff
theorem cb_4 {c x k : Nat} (hk : k = 4) : cbB c x k = true ↔ (48 ≤ c ∧ c ≤ 48 + 6) := by unfold cbB; rw [if_pos hk]; unfold isD; exact decide_eq_true_iff
theorem cb_5 {c x k : Nat} (hk : ¬ k = 4) : cbB c x k = true ↔ ((48 ≤ c ∧ c ≤ 48 + 5) ∧ (k = 5 ∨ c ≠ x)) := by unfold cbB; rw [if_neg hk, Bool.and_eq_true]; unfold isD; rw [decide_eq_true_iff, decide_eq_true_iff]
abbrev R0 (t : Nat → Nat) (len a : Nat) : Prop := a < len ∧ 48 ≤ t a ∧ t a ≤ 48 + 5
abbrev R1 (t : Nat → Nat) (len a : Nat) : Prop := a + 1 < len ∧ t (a + 1) = 58
abbrev R2 (t : Nat → Nat) (len a : Nat) : Prop := a + 2 < len ∧ 48 ≤ t (a + 2) ∧ t (a + 2) ≤ 48 + 5
abbrev R3 (t : Nat → Nat) (len a : Nat) : Prop := a + 3 < len ∧ kdn (t (a + 3)) < 6
abbrev R4 (t : Nat → Nat) (len a : Nat) : Prop := a + 4 < len ∧ cbB (t (a + 4)) (t (a + 2)) (kdn (t (a + 3))) = true
theorem rd0 (h6 : a % 6 = 0) (n0 : ¬ R0 t len a) : RdNo t len a a := RdNo_of (k := 0) (by omega) (fun j hj => absurd hj (by omega)) (fun z => n0 ⟨z.1, (ra0 h6).mp z.2⟩)
theorem rd1 (h6 : a % 6 = 0) (p0 : R0 t len a) (n1 : ¬ R1 t len a) : RdNo t len a (a + 1) := RdNo_of (k := 1) (by omega) (fun j hj => by
  obtain rfl : j = 0 := by omega
  exact ⟨p0.1, (ra0 h6).mpr p0.2⟩) (fun z => n1 ⟨z.1, (ra1 h6).mp z.2⟩)
theorem rd2 (h6 : a % 6 = 0) (p0 : R0 t len a) (p1 : R1 t len a) (n2 : ¬ R2 t len a) : RdNo t len a (a + 2) := RdNo_of (k := 2) (by omega) (fun j hj => by
  rcases (show j = 0 ∨ j = 1 by omega) with rfl | rfl
  · exact ⟨p0.1, (ra0 h6).mpr p0.2⟩
  · exact ⟨p1.1, (ra1 h6).mpr p1.2⟩) (fun z => n2 ⟨z.1, (ra2 h6).mp z.2⟩)
theorem rd3 (h6 : a % 6 = 0) (p0 : R0 t len a) (p1 : R1 t len a) (p2 : R2 t len a) (n3 : ¬ R3 t len a) : RdNo t len a (a + 3) := RdNo_of (k := 3) (by omega) (fun j hj => by
  rcases (show j = 0 ∨ j = 1 ∨ j = 2 by omega) with rfl | rfl | rfl
  · exact ⟨p0.1, (ra0 h6).mpr p0.2⟩
  · exact ⟨p1.1, (ra1 h6).mpr p1.2⟩
  · exact ⟨p2.1, (ra2 h6).mpr p2.2⟩) (fun z => n3 ⟨z.1, (ra3 h6).mp z.2⟩)
theorem rd4 (h6 : a % 6 = 0) (p0 : R0 t len a) (p1 : R1 t len a) (p2 : R2 t len a) (p3 : R3 t len a) (n4 : ¬ R4 t len a) : RdNo t len a (a + 4) := RdNo_of (k := 4) (by omega) (fun j hj => by
  rcases (show j = 0 ∨ j = 1 ∨ j = 2 ∨ j = 3 by omega) with rfl | rfl | rfl | rfl
  · exact ⟨p0.1, (ra0 h6).mpr p0.2⟩
  · exact ⟨p1.1, (ra1 h6).mpr p1.2⟩
  · exact ⟨p2.1, (ra2 h6).mpr p2.2⟩
  · exact ⟨p3.1, (ra3 h6).mpr p3.2⟩) (fun z => n4 ⟨z.1, (ra4 h6).mp z.2⟩)
theorem rd5 (h6 : a % 6 = 0) (p0 : R0 t len a) (p1 : R1 t len a) (p2 : R2 t len a) (p3 : R3 t len a) (p4 : R4 t len a) : RdOk t len a := ⟨by have := p4.1; omega, fun i h1 h2 => by
  rcases (show i = a ∨ i = a + 1 ∨ i = a + 2 ∨ i = a + 3 ∨ i = a + 4 by omega) with rfl | rfl | rfl | rfl | rfl
  · exact (ra0 h6).mpr p0.2
  · exact (ra1 h6).mpr p1.2
  · exact (ra2 h6).mpr p2.2
  · exact (ra3 h6).mpr p3.2
  · exact (ra4 h6).mpr p4.2⟩
theorem rn_eq (h128 : ∀ i, i < len → t i < 128) (p2 : R2 t len a) (hk : kdn (t (a + 3)) < 4) (e : chF t len (a + 4) - nI 48 = nI (t (a + 2) - 48)) : ¬ R4 t len a := by
  intro z
  have h := h128 (a + 2) p2.1
  have e2 := (chF_sb h128 (by omega) p2.2.1).mp e
  have c := ((cb_5 (by omega)).mp z.2).2
  rcases c with c | c
  · omega
  · exact c e2.2
theorem ry_ne (h128 : ∀ i, i < len → t i < 128) (p2 : R2 t len a) (hk : kdn (t (a + 3)) < 4) (e : ¬ chF t len (a + 4) - nI 48 = nI (t (a + 2) - 48)) (h : a + 4 < len ∧ 48 ≤ t (a + 4) ∧ t (a + 4) ≤ 48 + 5) : R4 t len a := by
  have h2 := h128 (a + 2) p2.1
  exact ⟨h.1, (cb_5 (by omega)).mpr ⟨h.2, Or.inr (fun z => e ((chF_sb h128 (by omega) p2.2.1).mpr ⟨h.1, z⟩))⟩⟩
theorem ff_no {b : Nat} (h6 : a % 6 = 0) (hal : a ≤ len) (A : RdNo t len a b) (H : ∀ i, i < a → csa t i = true) : nI b = ffF t len := by
  obtain ⟨a1, a2, a3, a4⟩ := A
  have hb : ∀ i, i < b → csa t i = true := fun i hi => if y : i < a then H i y else (a3 i (by omega) hi).2
  by_cases h : b < len
  · exact (ffF_hit h (a4 h) hb).symm
  · have e : b = len := by
      by_cases y : b = len
      · exact y
      · exact absurd (a3 len hal (by omega)).1 (Nat.lt_irrefl _)
    subst e
    rw [ffF_end hb, if_neg (by omega)]
theorem ff_ok (h6 : a % 6 = 0) (A : RdOk t len a) (e : a + 5 = len) (H : ∀ i, i < a → csa t i = true) : (-6 : Int32) = ffF t len := by
  rw [ffF_end (fun i hi => if y : i < a then H i y else A.2 i (by omega) (by omega)), if_pos (by omega)]
theorem ff_cm (h6 : a % 6 = 0) (A : RdOk t len a) (e : ¬ a + 5 = len) (hc : ¬ (a + 5 < len ∧ t (a + 5) = 44)) (H : ∀ i, i < a → csa t i = true) : nI (a + 5) = ffF t len := by
  have h := A.1
  exact (ffF_hit (by omega) (Bool.eq_false_iff.mpr (fun z => hc ⟨by omega, (ra5 h6).mp z⟩)) (fun i hi => if y : i < a then H i y else A.2 i (by omega) (by omega))).symm
theorem ff_on (h6 : a % 6 = 0) (A : RdOk t len a) (hc : a + 5 < len ∧ t (a + 5) = 44) (H : ∀ i, i < a → csa t i = true) : ∀ i, i < a + 6 → csa t i = true := fun i hi =>
  if y : i < a then H i y else if z : i < a + 5 then A.2 i (by omega) z else by
    obtain rfl : i = a + 5 := by omega
    exact (ra5 h6).mpr hc.2
end RDS
theorem if3 {P Q : Prop} [Decidable P] [Decidable Q] {x y w : Int32} : (¬ P ∧ (if ¬ P then x else if ¬ Q then y else w) = x) ∨ ((P ∧ ¬ Q) ∧ (if ¬ P then x else if ¬ Q then y else w) = y) ∨ ((P ∧ Q) ∧ (if ¬ P then x else if ¬ Q then y else w) = w) := by
  by_cases p : P
  · by_cases q : Q
    · exact Or.inr (Or.inr ⟨⟨p, q⟩, by rw [if_neg (fun z => z p), if_neg (fun z => z q)]⟩)
    · exact Or.inr (Or.inl ⟨⟨p, q⟩, by rw [if_neg (fun z => z p), if_pos q]⟩)
  · exact Or.inl ⟨p, if_pos p⟩
set_option maxRecDepth 100000 in
set_option maxHeartbeats 4000000 in
theorem c_X8_character (l : Launch) (g : fG) (N : Nat) (ct : Nat → va_E) (z : Nat → Int32) (F : Nat → Nat → Int32) (t : Nat → Nat) (len : Nat) (hN : 249 ≤ N) (hM : MA g ct z F) (hQ : RP t len z F) (i : Nat) (hi : i ≤ 100) : Met l yX8_character (wsU yX8_character cX8_character 2 (some .int)) rX8_character (fPre g N ct [.ref (fa g 239), .int (nI i)]) (fQpi (fun r => r = chF t len i)) 0 0 (fB g) := by
  refine fs_start (own := RX8) (lv0 := [(0, .ref (fa g 239)), (1, .int (nI i))]) (by decide) rfl (Nat.le_of_ble_eq_true rfl) rfl ?_
  intro p e s m args below meth c ls E hr hlk hnm hP hl hS
  have hx := E.1.1
  have hb := E.1.2.1
  have m_1o : ct 239 = .inr (8, [.ref (fa g 240), .ref (fa g 241), .int (z 0), .ref (fa g 242), .ref (fa g 243), .ref (fa g 244), .int (z 1), .ref (fa g 245), .int (z 2), .ref (fa g 246), .ref (fa g 247), .ref (fa g 248), .int (z 3), .int (z 4), .int (z 5), .int (z 6), .int (z 7), .int (z 8), .int (z 9)]) := (hM).1
  have m_1r0 : ct 240 = .inl (fcI g, 121, .inl (F 0)) := (hM).2.1
  have m_1r1 : ct 241 = .inl (fcI g, 726, .inl (F 1)) := (hM).2.2.1
  have m_1r2 : ct 242 = .inl (fcI g, 242, .inl (F 2)) := (hM).2.2.2.1
  have m_1r3 : ct 243 = .inl (fcI g, 2, .inl (F 3)) := (hM).2.2.2.2.1
  have m_1r4 : ct 244 = .inl (fcI g, 60, .inl (F 4)) := (hM).2.2.2.2.2.1
  have m_1r5 : ct 245 = .inl (fcI g, 6, .inl (F 5)) := (hM).2.2.2.2.2.2.1
  have m_1r6 : ct 246 = .inl (fcI g, 36, .inl (F 6)) := (hM).2.2.2.2.2.2.2.1
  have m_1r7 : ct 247 = .inl (fcI g, 20, .inl (F 7)) := (hM).2.2.2.2.2.2.2.2.1
  have m_1r8 : ct 248 = .inl (fcI g, 20, .inl (F 8)) := (hM).2.2.2.2.2.2.2.2.2
  have hl60 := hQ.2.1
  refine lv_iload_n hx hb dX8_character_0 rfl (lv_at hl 1 rfl) ?_
  refine lv_aload_n hx hb dX8_character_1 rfl (lv_at hl 0 rfl) ?_
  refine fs_get E hP (k := 239) (v := .int (z 1)) 6 fc8 m_1o (by omega) (by decide) (wm wl_16 (i := 13) rfl) rfl dX8_character_2 ?_
  refine fs_vi (y := nI len) hQ.1 ?_
  refine lv_icmp_ge (tgt := 17) hx hb dX8_character_5 (by decide) (fun c_5 => ?_) (fun c_5 => ?_)
  · rw [nI_leI (by omega) (by omega)] at c_5
    refine lv_iconst (v := (-1)) hx hb dX8_character_17 (by decide) ?_
    refine fs_piret E hr hlk hS dX8_character_18 ?_
    unfold chF; rw [if_neg (by omega)]
  · rw [nI_leI (by omega) (by omega)] at c_5
    refine lv_aload_n hx hb dX8_character_8 rfl (lv_at hl 0 rfl) ?_
    refine fs_get E hP (k := 239) (v := .ref (fa g 244)) 5 fc8 m_1o (by omega) (by decide) (wm wl_5 (i := 4) rfl) rfl dX8_character_9 ?_
    refine lv_iload_n hx hb dX8_character_12 rfl (lv_at hl 1 rfl) ?_
    refine fs_iald E hP (k := 244) m_1r4 (by omega) (vp_in_nI (by omega) (by omega)) dX8_character_13 ?_
    refine fs_vi (y := (F 4) i) (congrArg (F 4) (nI_clamp (by omega))) ?_
    refine fs_vi (y := (nI (t i))) (hQ.2.2 i (by omega)) ?_
    refine lv_goto (tgt := 18) hx hb dX8_character_14 (by decide) ?_
    refine fs_piret E hr hlk hS dX8_character_18 ?_
    unfold chF; rw [if_pos (by omega)]

set_option maxRecDepth 100000 in
set_option maxHeartbeats 4000000 in
theorem c_X8_isNext (l : Launch) (g : fG) (N : Nat) (ct : Nat → va_E) (z : Nat → Int32) (F : Nat → Nat → Int32) (t : Nat → Nat) (len a : Nat) (y6 y7 y8 y9 : Int32) (hN : 249 ≤ N) (hM : MA g ct (mkz (z 0) (z 1) (z 2) (z 3) (z 4) (nI a) y6 y7 y8 y9) F) (hQ : RP t len z F) (h128 : ∀ i, i < len → t i < 128) (ha : a ≤ 66) (c0 : Nat) (hc : c0 < 128) : Met l yX8_isNext (wsU yX8_isNext cX8_isNext 3 (some .boolean)) rX8_isNext (fPre g N ct [.ref (fa g 239), .int (nI c0)]) (fQi g N (fun r ct1 => (((a < len ∧ t a = c0) ∧ r = nI 1 ∧ MA g ct1 (mkz (z 0) (z 1) (z 2) (z 3) (z 4) (nI (a + 1)) y6 y7 y8 y9) F) ∨ (¬ (a < len ∧ t a = c0) ∧ r = nI 0 ∧ MA g ct1 (mkz (z 0) (z 1) (z 2) (z 3) (z 4) (nI a) y6 y7 y8 y9) F)) ∧ fSame 239 249 ct ct1)) 0 0 (fB g) := by
  refine fs_start (own := RX8) (lv0 := [(0, .ref (fa g 239)), (1, .int (nI c0))]) (by decide) rfl (Nat.le_of_ble_eq_true rfl) rfl ?_
  intro p e s m args below meth c ls E hr hlk hnm hP hl hS
  have hx := E.1.1
  have hb := E.1.2.1
  have m_1o : ct 239 = .inr (8, [.ref (fa g 240), .ref (fa g 241), .int (z 0), .ref (fa g 242), .ref (fa g 243), .ref (fa g 244), .int (z 1), .ref (fa g 245), .int (z 2), .ref (fa g 246), .ref (fa g 247), .ref (fa g 248), .int (z 3), .int (z 4), .int (nI a), .int y6, .int y7, .int y8, .int y9]) := (hM).1
  have m_1r0 : ct 240 = .inl (fcI g, 121, .inl (F 0)) := (hM).2.1
  have m_1r1 : ct 241 = .inl (fcI g, 726, .inl (F 1)) := (hM).2.2.1
  have m_1r2 : ct 242 = .inl (fcI g, 242, .inl (F 2)) := (hM).2.2.2.1
  have m_1r3 : ct 243 = .inl (fcI g, 2, .inl (F 3)) := (hM).2.2.2.2.1
  have m_1r4 : ct 244 = .inl (fcI g, 60, .inl (F 4)) := (hM).2.2.2.2.2.1
  have m_1r5 : ct 245 = .inl (fcI g, 6, .inl (F 5)) := (hM).2.2.2.2.2.2.1
  have m_1r6 : ct 246 = .inl (fcI g, 36, .inl (F 6)) := (hM).2.2.2.2.2.2.2.1
  have m_1r7 : ct 247 = .inl (fcI g, 20, .inl (F 7)) := (hM).2.2.2.2.2.2.2.2.1
  have m_1r8 : ct 248 = .inl (fcI g, 20, .inl (F 8)) := (hM).2.2.2.2.2.2.2.2.2
  have hl60 := hQ.2.1
  refine lv_aload_n hx hb dX8_isNext_0 rfl (lv_at hl 0 rfl) ?_
  refine lv_aload_n hx hb dX8_isNext_1 rfl (lv_at hl 0 rfl) ?_
  refine fs_get E hP (k := 239) (v := .int (nI a)) 14 fc8 m_1o (by omega) (by decide) (wm wl_16 (i := 12) rfl) rfl dX8_isNext_2 ?_
  have MB_2 : MA g ct (mkz (z 0) (z 1) (z 2) (z 3) (z 4) (nI a) y6 y7 y8 y9) F := ⟨m_1o, m_1r0, m_1r1, m_1r2, m_1r3, m_1r4, m_1r5, m_1r6, m_1r7, m_1r8⟩
  refine fs_pi (va_runV (As := [.int (nI a)]) (rest := []) E.1 (c_X8_character l g N ct (mkz (z 0) (z 1) (z 2) (z 3) (z 4) (nI a) y6 y7 y8 y9) F t len (by omega) MB_2 ⟨hQ.1, hQ.2⟩ a (by omega)) (lk_RX8_181 E.1.2.2.2.2 ⟨Nat.le_of_ble_eq_true rfl, Nat.le_of_ble_eq_true rfl⟩) (fpreV E hP hS fc8 m_1o (by omega)) rfl rfl hl.1 rfl (lv_room (Nat.le_of_ble_eq_true rfl)) dX8_isNext_5 ⟨Nat.zero_le _, Nat.zero_le _⟩) hS (fun r_5 locs p_5 hS => ?_)
  refine fs_vi (y := (chF t len a)) p_5 ?_
  refine lv_iload_n hx hb dX8_isNext_8 rfl (lv_at hl 1 rfl) ?_
  refine lv_icmp_ne (tgt := 16) hx hb dX8_isNext_9 (by decide) (fun c_9 => ?_) (fun c_9 => ?_)
  · replace c_9 : ¬ (a < len ∧ t a = c0) := fun y => c_9 ((chF_eq h128 hc).mpr y)
    refine lv_iconst (v := (nI 0)) hx hb dX8_isNext_16 (by decide) ?_
    refine lv_istore_n (lv' := [(2, .int (nI 0)), (0, .ref (fa g 239)), (1, .int (nI c0))]) hx hb dX8_isNext_17 rfl hl (by decide) rfl (fun ls hl => ?_)
    refine lv_aload_n hx hb dX8_isNext_18 rfl (lv_at hl 1 rfl) ?_
    refine lv_dup hx hb dX8_isNext_19 rfl ?_
    refine fs_get E hP (k := 239) (v := .int (nI a)) 14 fc8 m_1o (by omega) (by decide) (wm wl_16 (i := 12) rfl) rfl dX8_isNext_20 ?_
    refine lv_iload_n hx hb dX8_isNext_23 rfl (lv_at hl 0 rfl) ?_
    refine lv_if_eq (tgt := 31) hx hb dX8_isNext_24 (by decide) (fun c_24 => ?_) (fun c_24 => ?_)
    rotate_left
    · exact absurd c_24 (by decide)
    refine lv_iconst (v := (nI 0)) hx hb dX8_isNext_31 (by decide) ?_
    refine lv_iadd hx hb dX8_isNext_32 ?_
    refine fs_vi (y := (nI a)) (nI_add _ 0) ?_
    refine fs_put E hP hS (k := 239) 14 fc8 m_1o (by omega) (by decide) (wm wl_16 (i := 12) rfl) rfl rfl rfl rfl (Nat.le_of_ble_eq_true rfl) dX8_isNext_33 (fun ct_3 H locs q_4 hP hS => ?_)
    have h_5 : ct_3 239 = .inr (8, [.ref (fa g 240), .ref (fa g 241), .int (z 0), .ref (fa g 242), .ref (fa g 243), .ref (fa g 244), .int (z 1), .ref (fa g 245), .int (z 2), .ref (fa g 246), .ref (fa g 247), .ref (fa g 248), .int (z 3), .int (z 4), .int (nI a), .int y6, .int y7, .int y8, .int y9]) := by rw [q_4]; exact fu_eq _ _ _
    have h_6 : ct_3 240 = .inl (fcI g, 121, .inl (F 0)) := by rw [q_4]; exact (fu_ne (by omega)).trans m_1r0
    have h_7 : ct_3 241 = .inl (fcI g, 726, .inl (F 1)) := by rw [q_4]; exact (fu_ne (by omega)).trans m_1r1
    have h_8 : ct_3 242 = .inl (fcI g, 242, .inl (F 2)) := by rw [q_4]; exact (fu_ne (by omega)).trans m_1r2
    have h_9 : ct_3 243 = .inl (fcI g, 2, .inl (F 3)) := by rw [q_4]; exact (fu_ne (by omega)).trans m_1r3
    have h_10 : ct_3 244 = .inl (fcI g, 60, .inl (F 4)) := by rw [q_4]; exact (fu_ne (by omega)).trans m_1r4
    have h_11 : ct_3 245 = .inl (fcI g, 6, .inl (F 5)) := by rw [q_4]; exact (fu_ne (by omega)).trans m_1r5
    have h_12 : ct_3 246 = .inl (fcI g, 36, .inl (F 6)) := by rw [q_4]; exact (fu_ne (by omega)).trans m_1r6
    have h_13 : ct_3 247 = .inl (fcI g, 20, .inl (F 7)) := by rw [q_4]; exact (fu_ne (by omega)).trans m_1r7
    have h_14 : ct_3 248 = .inl (fcI g, 20, .inl (F 8)) := by rw [q_4]; exact (fu_ne (by omega)).trans m_1r8
    refine lv_iload_n hx hb dX8_isNext_36 rfl (lv_at hl 0 rfl) ?_
    have MB_15 : MA g ct_3 (mkz (z 0) (z 1) (z 2) (z 3) (z 4) (nI a) y6 y7 y8 y9) F := ⟨h_5, h_6, h_7, h_8, h_9, h_10, h_11, h_12, h_13, h_14⟩
    refine fs_zret E hr rfl hlk hP hS dX8_isNext_37 ?_
    exact ⟨Or.inr ⟨c_9, rfl, MB_15⟩, (show fSame 239 249 _ _ from (fSame.ap fSame.rf q_4 (by omega) (by omega)))⟩
  · replace c_9 := (chF_eq h128 hc).mp c_9
    refine lv_iconst (v := (nI 1)) hx hb dX8_isNext_12 (by decide) ?_
    refine lv_goto (tgt := 17) hx hb dX8_isNext_13 (by decide) ?_
    refine lv_istore_n (lv' := [(2, .int (nI 1)), (0, .ref (fa g 239)), (1, .int (nI c0))]) hx hb dX8_isNext_17 rfl hl (by decide) rfl (fun ls hl => ?_)
    refine lv_aload_n hx hb dX8_isNext_18 rfl (lv_at hl 1 rfl) ?_
    refine lv_dup hx hb dX8_isNext_19 rfl ?_
    refine fs_get E hP (k := 239) (v := .int (nI a)) 14 fc8 m_1o (by omega) (by decide) (wm wl_16 (i := 12) rfl) rfl dX8_isNext_20 ?_
    refine lv_iload_n hx hb dX8_isNext_23 rfl (lv_at hl 0 rfl) ?_
    refine lv_if_eq (tgt := 31) hx hb dX8_isNext_24 (by decide) (fun c_24 => ?_) (fun c_24 => ?_)
    · exact absurd c_24 (by decide)
    refine lv_iconst (v := (nI 1)) hx hb dX8_isNext_27 (by decide) ?_
    refine lv_goto (tgt := 32) hx hb dX8_isNext_28 (by decide) ?_
    refine lv_iadd hx hb dX8_isNext_32 ?_
    refine fs_vi (y := (nI (a + 1))) (nI_1 _) ?_
    refine fs_put E hP hS (k := 239) 14 fc8 m_1o (by omega) (by decide) (wm wl_16 (i := 12) rfl) rfl rfl rfl rfl (Nat.le_of_ble_eq_true rfl) dX8_isNext_33 (fun ct_16 H locs q_17 hP hS => ?_)
    have h_18 : ct_16 239 = .inr (8, [.ref (fa g 240), .ref (fa g 241), .int (z 0), .ref (fa g 242), .ref (fa g 243), .ref (fa g 244), .int (z 1), .ref (fa g 245), .int (z 2), .ref (fa g 246), .ref (fa g 247), .ref (fa g 248), .int (z 3), .int (z 4), .int (nI (a + 1)), .int y6, .int y7, .int y8, .int y9]) := by rw [q_17]; exact fu_eq _ _ _
    have h_19 : ct_16 240 = .inl (fcI g, 121, .inl (F 0)) := by rw [q_17]; exact (fu_ne (by omega)).trans m_1r0
    have h_20 : ct_16 241 = .inl (fcI g, 726, .inl (F 1)) := by rw [q_17]; exact (fu_ne (by omega)).trans m_1r1
    have h_21 : ct_16 242 = .inl (fcI g, 242, .inl (F 2)) := by rw [q_17]; exact (fu_ne (by omega)).trans m_1r2
    have h_22 : ct_16 243 = .inl (fcI g, 2, .inl (F 3)) := by rw [q_17]; exact (fu_ne (by omega)).trans m_1r3
    have h_23 : ct_16 244 = .inl (fcI g, 60, .inl (F 4)) := by rw [q_17]; exact (fu_ne (by omega)).trans m_1r4
    have h_24 : ct_16 245 = .inl (fcI g, 6, .inl (F 5)) := by rw [q_17]; exact (fu_ne (by omega)).trans m_1r5
    have h_25 : ct_16 246 = .inl (fcI g, 36, .inl (F 6)) := by rw [q_17]; exact (fu_ne (by omega)).trans m_1r6
    have h_26 : ct_16 247 = .inl (fcI g, 20, .inl (F 7)) := by rw [q_17]; exact (fu_ne (by omega)).trans m_1r7
    have h_27 : ct_16 248 = .inl (fcI g, 20, .inl (F 8)) := by rw [q_17]; exact (fu_ne (by omega)).trans m_1r8
    refine lv_iload_n hx hb dX8_isNext_36 rfl (lv_at hl 0 rfl) ?_
    have MB_28 : MA g ct_16 (mkz (z 0) (z 1) (z 2) (z 3) (z 4) (nI (a + 1)) y6 y7 y8 y9) F := ⟨h_18, h_19, h_20, h_21, h_22, h_23, h_24, h_25, h_26, h_27⟩
    refine fs_zret E hr rfl hlk hP hS dX8_isNext_37 ?_
    exact ⟨Or.inl ⟨c_9, rfl, MB_28⟩, (show fSame 239 249 _ _ from (fSame.ap fSame.rf q_17 (by omega) (by omega)))⟩

set_option maxRecDepth 100000 in
set_option maxHeartbeats 4000000 in
theorem c_X8_takeDigit (l : Launch) (g : fG) (N : Nat) (ct : Nat → va_E) (z : Nat → Int32) (F : Nat → Nat → Int32) (t : Nat → Nat) (len a : Nat) (y6 y7 y8 y9 : Int32) (hN : 249 ≤ N) (hM : MA g ct (mkz (z 0) (z 1) (z 2) (z 3) (z 4) (nI a) y6 y7 y8 y9) F) (hQ : RP t len z F) (h128 : ∀ i, i < len → t i < 128) (ha : a ≤ 66) (mm : Nat) (hm : mm < 10) : Met l yX8_takeDigit (wsU yX8_takeDigit cX8_takeDigit 3 (some .int)) rX8_takeDigit (fPre g N ct [.ref (fa g 239), .int (nI mm)]) (fQi g N (fun r ct1 => (((a < len ∧ 48 ≤ t a ∧ t a ≤ 48 + mm) ∧ r = nI (t a - 48) ∧ MA g ct1 (mkz (z 0) (z 1) (z 2) (z 3) (z 4) (nI (a + 1)) y6 y7 y8 y9) F) ∨ (¬ (a < len ∧ 48 ≤ t a ∧ t a ≤ 48 + mm) ∧ r = -1 ∧ MA g ct1 (mkz (z 0) (z 1) (z 2) (z 3) (z 4) (nI a) y6 y7 y8 y9) F)) ∧ fSame 239 249 ct ct1)) 0 0 (fB g) := by
  refine fs_start (own := RX8) (lv0 := [(0, .ref (fa g 239)), (1, .int (nI mm))]) (by decide) rfl (Nat.le_of_ble_eq_true rfl) rfl ?_
  intro p e s m args below meth c ls E hr hlk hnm hP hl hS
  have hx := E.1.1
  have hb := E.1.2.1
  have m_1o : ct 239 = .inr (8, [.ref (fa g 240), .ref (fa g 241), .int (z 0), .ref (fa g 242), .ref (fa g 243), .ref (fa g 244), .int (z 1), .ref (fa g 245), .int (z 2), .ref (fa g 246), .ref (fa g 247), .ref (fa g 248), .int (z 3), .int (z 4), .int (nI a), .int y6, .int y7, .int y8, .int y9]) := (hM).1
  have m_1r0 : ct 240 = .inl (fcI g, 121, .inl (F 0)) := (hM).2.1
  have m_1r1 : ct 241 = .inl (fcI g, 726, .inl (F 1)) := (hM).2.2.1
  have m_1r2 : ct 242 = .inl (fcI g, 242, .inl (F 2)) := (hM).2.2.2.1
  have m_1r3 : ct 243 = .inl (fcI g, 2, .inl (F 3)) := (hM).2.2.2.2.1
  have m_1r4 : ct 244 = .inl (fcI g, 60, .inl (F 4)) := (hM).2.2.2.2.2.1
  have m_1r5 : ct 245 = .inl (fcI g, 6, .inl (F 5)) := (hM).2.2.2.2.2.2.1
  have m_1r6 : ct 246 = .inl (fcI g, 36, .inl (F 6)) := (hM).2.2.2.2.2.2.2.1
  have m_1r7 : ct 247 = .inl (fcI g, 20, .inl (F 7)) := (hM).2.2.2.2.2.2.2.2.1
  have m_1r8 : ct 248 = .inl (fcI g, 20, .inl (F 8)) := (hM).2.2.2.2.2.2.2.2.2
  have hl60 := hQ.2.1
  refine lv_aload_n hx hb dX8_takeDigit_0 rfl (lv_at hl 0 rfl) ?_
  refine lv_aload_n hx hb dX8_takeDigit_1 rfl (lv_at hl 0 rfl) ?_
  refine fs_get E hP (k := 239) (v := .int (nI a)) 14 fc8 m_1o (by omega) (by decide) (wm wl_16 (i := 12) rfl) rfl dX8_takeDigit_2 ?_
  have MB_2 : MA g ct (mkz (z 0) (z 1) (z 2) (z 3) (z 4) (nI a) y6 y7 y8 y9) F := ⟨m_1o, m_1r0, m_1r1, m_1r2, m_1r3, m_1r4, m_1r5, m_1r6, m_1r7, m_1r8⟩
  refine fs_pi (va_runV (As := [.int (nI a)]) (rest := []) E.1 (c_X8_character l g N ct (mkz (z 0) (z 1) (z 2) (z 3) (z 4) (nI a) y6 y7 y8 y9) F t len (by omega) MB_2 ⟨hQ.1, hQ.2⟩ a (by omega)) (lk_RX8_181 E.1.2.2.2.2 ⟨Nat.le_of_ble_eq_true rfl, Nat.le_of_ble_eq_true rfl⟩) (fpreV E hP hS fc8 m_1o (by omega)) rfl rfl hl.1 rfl (lv_room (Nat.le_of_ble_eq_true rfl)) dX8_takeDigit_5 ⟨Nat.zero_le _, Nat.zero_le _⟩) hS (fun r_5 locs p_5 hS => ?_)
  refine fs_vi (y := (chF t len a)) p_5 ?_
  refine lv_bipush (v := (nI 48)) hx hb dX8_takeDigit_8 (by decide) ?_
  refine lv_isub hx hb dX8_takeDigit_10 ?_
  refine lv_istore_n (lv' := [(2, .int ((chF t len a) - (nI 48))), (0, .ref (fa g 239)), (1, .int (nI mm))]) hx hb dX8_takeDigit_11 rfl hl (by decide) rfl (fun ls hl => ?_)
  refine lv_iload_n hx hb dX8_takeDigit_12 rfl (lv_at hl 0 rfl) ?_
  refine lv_iconst (v := (nI 0)) hx hb dX8_takeDigit_13 (by decide) ?_
  refine lv_iload_n hx hb dX8_takeDigit_14 rfl (lv_at hl 2 rfl) ?_
  refine fs_pi (va_runS (As := [.int ((chF t len a) - (nI 48)), .int (nI 0), .int (nI mm)]) (rest := []) E.1 (c_X8_within l g N ct ((chF t len a) - (nI 48)) (nI 0) (nI mm)) (lk_RX8_49 E.1.2.2.2.2 ⟨Nat.le_of_ble_eq_true rfl, Nat.le_of_ble_eq_true rfl⟩) (fpreS E hP hS) rfl rfl hl.1 rfl (lv_room (Nat.le_of_ble_eq_true rfl)) dX8_takeDigit_15 ⟨Nat.zero_le _, Nat.zero_le _⟩) hS (fun r_15 locs p_15 hS => ?_)
  refine lv_if_ne (tgt := 23) hx hb dX8_takeDigit_18 (by decide) (fun c_18 => ?_) (fun c_18 => ?_)
  · replace c_18 := (chF_dg h128 hm).mp ((fb_1 p_15).mp c_18)
    refine lv_aload_n hx hb dX8_takeDigit_23 rfl (lv_at hl 1 rfl) ?_
    refine lv_dup hx hb dX8_takeDigit_24 rfl ?_
    refine fs_get E hP (k := 239) (v := .int (nI a)) 14 fc8 m_1o (by omega) (by decide) (wm wl_16 (i := 12) rfl) rfl dX8_takeDigit_25 ?_
    refine lv_iconst (v := (nI 1)) hx hb dX8_takeDigit_28 (by decide) ?_
    refine lv_iadd hx hb dX8_takeDigit_29 ?_
    refine fs_vi (y := (nI (a + 1))) (nI_1 _) ?_
    refine fs_put E hP hS (k := 239) 14 fc8 m_1o (by omega) (by decide) (wm wl_16 (i := 12) rfl) rfl rfl rfl rfl (Nat.le_of_ble_eq_true rfl) dX8_takeDigit_30 (fun ct_3 H locs q_4 hP hS => ?_)
    have h_5 : ct_3 239 = .inr (8, [.ref (fa g 240), .ref (fa g 241), .int (z 0), .ref (fa g 242), .ref (fa g 243), .ref (fa g 244), .int (z 1), .ref (fa g 245), .int (z 2), .ref (fa g 246), .ref (fa g 247), .ref (fa g 248), .int (z 3), .int (z 4), .int (nI (a + 1)), .int y6, .int y7, .int y8, .int y9]) := by rw [q_4]; exact fu_eq _ _ _
    have h_6 : ct_3 240 = .inl (fcI g, 121, .inl (F 0)) := by rw [q_4]; exact (fu_ne (by omega)).trans m_1r0
    have h_7 : ct_3 241 = .inl (fcI g, 726, .inl (F 1)) := by rw [q_4]; exact (fu_ne (by omega)).trans m_1r1
    have h_8 : ct_3 242 = .inl (fcI g, 242, .inl (F 2)) := by rw [q_4]; exact (fu_ne (by omega)).trans m_1r2
    have h_9 : ct_3 243 = .inl (fcI g, 2, .inl (F 3)) := by rw [q_4]; exact (fu_ne (by omega)).trans m_1r3
    have h_10 : ct_3 244 = .inl (fcI g, 60, .inl (F 4)) := by rw [q_4]; exact (fu_ne (by omega)).trans m_1r4
    have h_11 : ct_3 245 = .inl (fcI g, 6, .inl (F 5)) := by rw [q_4]; exact (fu_ne (by omega)).trans m_1r5
    have h_12 : ct_3 246 = .inl (fcI g, 36, .inl (F 6)) := by rw [q_4]; exact (fu_ne (by omega)).trans m_1r6
    have h_13 : ct_3 247 = .inl (fcI g, 20, .inl (F 7)) := by rw [q_4]; exact (fu_ne (by omega)).trans m_1r7
    have h_14 : ct_3 248 = .inl (fcI g, 20, .inl (F 8)) := by rw [q_4]; exact (fu_ne (by omega)).trans m_1r8
    refine lv_iload_n hx hb dX8_takeDigit_33 rfl (lv_at hl 0 rfl) ?_
    refine fs_vi (y := nI (t a - 48)) (chF_dv c_18.1 c_18.2.1) ?_
    have MB_15 : MA g ct_3 (mkz (z 0) (z 1) (z 2) (z 3) (z 4) (nI (a + 1)) y6 y7 y8 y9) F := ⟨h_5, h_6, h_7, h_8, h_9, h_10, h_11, h_12, h_13, h_14⟩
    refine fs_iret E hr hlk hP hS dX8_takeDigit_34 ?_
    exact ⟨Or.inl ⟨c_18, rfl, MB_15⟩, (show fSame 239 249 _ _ from (fSame.ap fSame.rf q_4 (by omega) (by omega)))⟩
  · replace c_18 : ¬ (a < len ∧ 48 ≤ t a ∧ t a ≤ 48 + mm) := fun y => ((fb_0 p_15).mp c_18) ((chF_dg h128 hm).mpr y)
    refine lv_iconst (v := (-1)) hx hb dX8_takeDigit_21 (by decide) ?_
    have MB_16 : MA g ct (mkz (z 0) (z 1) (z 2) (z 3) (z 4) (nI a) y6 y7 y8 y9) F := ⟨m_1o, m_1r0, m_1r1, m_1r2, m_1r3, m_1r4, m_1r5, m_1r6, m_1r7, m_1r8⟩
    refine fs_iret E hr hlk hP hS dX8_takeDigit_22 ?_
    exact ⟨Or.inr ⟨c_18, rfl, MB_16⟩, fSame.rf⟩

set_option maxRecDepth 100000 in
set_option maxHeartbeats 4000000 in
theorem c_X8_takeKind (l : Launch) (g : fG) (N : Nat) (ct : Nat → va_E) (z : Nat → Int32) (F : Nat → Nat → Int32) (t : Nat → Nat) (len a : Nat) (y6 y7 y8 y9 : Int32) (hN : 249 ≤ N) (hM : MA g ct (mkz (z 0) (z 1) (z 2) (z 3) (z 4) (nI a) y6 y7 y8 y9) F) (hQ : RP t len z F) (h128 : ∀ i, i < len → t i < 128) (ha : a ≤ 66) : Met l yX8_takeKind (wsU yX8_takeKind cX8_takeKind 3 (some .int)) rX8_takeKind (fPre g N ct [.ref (fa g 239)]) (fQi g N (fun r ct1 => (((a < len ∧ kdn (t a) < 6) ∧ r = nI (kdn (t a)) ∧ MA g ct1 (mkz (z 0) (z 1) (z 2) (z 3) (z 4) (nI (a + 1)) y6 y7 y8 y9) F) ∨ (¬ (a < len ∧ kdn (t a) < 6) ∧ r = -1 ∧ MA g ct1 (mkz (z 0) (z 1) (z 2) (z 3) (z 4) (nI a) y6 y7 y8 y9) F)) ∧ fSame 239 249 ct ct1)) 0 0 (fB g) := by
  refine fs_start (own := RX8) (lv0 := [(0, .ref (fa g 239))]) (by decide) rfl (Nat.le_of_ble_eq_true rfl) rfl ?_
  intro p e s m args below meth c ls E hr hlk hnm hP hl hS
  have hx := E.1.1
  have hb := E.1.2.1
  have m_1o : ct 239 = .inr (8, [.ref (fa g 240), .ref (fa g 241), .int (z 0), .ref (fa g 242), .ref (fa g 243), .ref (fa g 244), .int (z 1), .ref (fa g 245), .int (z 2), .ref (fa g 246), .ref (fa g 247), .ref (fa g 248), .int (z 3), .int (z 4), .int (nI a), .int y6, .int y7, .int y8, .int y9]) := (hM).1
  have m_1r0 : ct 240 = .inl (fcI g, 121, .inl (F 0)) := (hM).2.1
  have m_1r1 : ct 241 = .inl (fcI g, 726, .inl (F 1)) := (hM).2.2.1
  have m_1r2 : ct 242 = .inl (fcI g, 242, .inl (F 2)) := (hM).2.2.2.1
  have m_1r3 : ct 243 = .inl (fcI g, 2, .inl (F 3)) := (hM).2.2.2.2.1
  have m_1r4 : ct 244 = .inl (fcI g, 60, .inl (F 4)) := (hM).2.2.2.2.2.1
  have m_1r5 : ct 245 = .inl (fcI g, 6, .inl (F 5)) := (hM).2.2.2.2.2.2.1
  have m_1r6 : ct 246 = .inl (fcI g, 36, .inl (F 6)) := (hM).2.2.2.2.2.2.2.1
  have m_1r7 : ct 247 = .inl (fcI g, 20, .inl (F 7)) := (hM).2.2.2.2.2.2.2.2.1
  have m_1r8 : ct 248 = .inl (fcI g, 20, .inl (F 8)) := (hM).2.2.2.2.2.2.2.2.2
  have hl60 := hQ.2.1
  refine lv_aload_n hx hb dX8_takeKind_0 rfl (lv_at hl 0 rfl) ?_
  refine lv_aload_n hx hb dX8_takeKind_1 rfl (lv_at hl 0 rfl) ?_
  refine fs_get E hP (k := 239) (v := .int (nI a)) 14 fc8 m_1o (by omega) (by decide) (wm wl_16 (i := 12) rfl) rfl dX8_takeKind_2 ?_
  have MB_2 : MA g ct (mkz (z 0) (z 1) (z 2) (z 3) (z 4) (nI a) y6 y7 y8 y9) F := ⟨m_1o, m_1r0, m_1r1, m_1r2, m_1r3, m_1r4, m_1r5, m_1r6, m_1r7, m_1r8⟩
  refine fs_pi (va_runV (As := [.int (nI a)]) (rest := []) E.1 (c_X8_character l g N ct (mkz (z 0) (z 1) (z 2) (z 3) (z 4) (nI a) y6 y7 y8 y9) F t len (by omega) MB_2 ⟨hQ.1, hQ.2⟩ a (by omega)) (lk_RX8_181 E.1.2.2.2.2 ⟨Nat.le_of_ble_eq_true rfl, Nat.le_of_ble_eq_true rfl⟩) (fpreV E hP hS fc8 m_1o (by omega)) rfl rfl hl.1 rfl (lv_room (Nat.le_of_ble_eq_true rfl)) dX8_takeKind_5 ⟨Nat.zero_le _, Nat.zero_le _⟩) hS (fun r_5 locs p_5 hS => ?_)
  refine fs_vi (y := (chF t len a)) p_5 ?_
  refine lv_istore_n (lv' := [(1, .int (chF t len a)), (0, .ref (fa g 239))]) hx hb dX8_takeKind_8 rfl hl (by decide) rfl (fun ls hl => ?_)
  refine lv_iload_n hx hb dX8_takeKind_9 rfl (lv_at hl 0 rfl) ?_
  refine lv_bipush (v := (nI 62)) hx hb dX8_takeKind_10 (by decide) ?_
  refine lv_icmp_ne (tgt := 19) hx hb dX8_takeKind_12 (by decide) (fun c_12 => ?_) (fun c_12 => ?_)
  · refine lv_iload_n hx hb dX8_takeKind_19 rfl (lv_at hl 0 rfl) ?_
    refine lv_bipush (v := (nI 47)) hx hb dX8_takeKind_20 (by decide) ?_
    refine lv_icmp_ne (tgt := 29) hx hb dX8_takeKind_22 (by decide) (fun c_22 => ?_) (fun c_22 => ?_)
    · refine lv_iload_n hx hb dX8_takeKind_29 rfl (lv_at hl 0 rfl) ?_
      refine lv_bipush (v := (nI 61)) hx hb dX8_takeKind_30 (by decide) ?_
      refine lv_icmp_ne (tgt := 39) hx hb dX8_takeKind_32 (by decide) (fun c_32 => ?_) (fun c_32 => ?_)
      · refine lv_iload_n hx hb dX8_takeKind_39 rfl (lv_at hl 0 rfl) ?_
        refine lv_bipush (v := (nI 126)) hx hb dX8_takeKind_40 (by decide) ?_
        refine lv_icmp_ne (tgt := 49) hx hb dX8_takeKind_42 (by decide) (fun c_42 => ?_) (fun c_42 => ?_)
        · refine lv_iload_n hx hb dX8_takeKind_49 rfl (lv_at hl 0 rfl) ?_
          refine lv_bipush (v := (nI 35)) hx hb dX8_takeKind_50 (by decide) ?_
          refine lv_icmp_ne (tgt := 59) hx hb dX8_takeKind_52 (by decide) (fun c_52 => ?_) (fun c_52 => ?_)
          · refine lv_iload_n hx hb dX8_takeKind_59 rfl (lv_at hl 0 rfl) ?_
            refine lv_bipush (v := (nI 42)) hx hb dX8_takeKind_60 (by decide) ?_
            refine lv_icmp_ne (tgt := 69) hx hb dX8_takeKind_62 (by decide) (fun c_62 => ?_) (fun c_62 => ?_)
            · refine lv_iconst (v := (-1)) hx hb dX8_takeKind_69 (by decide) ?_
              refine lv_istore_n (lv' := [(2, .int (-1)), (1, .int (chF t len a)), (0, .ref (fa g 239))]) hx hb dX8_takeKind_70 rfl hl (by decide) rfl (fun ls hl => ?_)
              refine lv_aload_n hx hb dX8_takeKind_71 rfl (lv_at hl 2 rfl) ?_
              refine lv_dup hx hb dX8_takeKind_72 rfl ?_
              refine fs_get E hP (k := 239) (v := .int (nI a)) 14 fc8 m_1o (by omega) (by decide) (wm wl_16 (i := 12) rfl) rfl dX8_takeKind_73 ?_
              refine lv_iload_n hx hb dX8_takeKind_76 rfl (lv_at hl 0 rfl) ?_
              refine lv_if_ge (tgt := 84) hx hb dX8_takeKind_77 (by decide) (fun c_77 => ?_) (fun c_77 => ?_)
              · exact absurd c_77 (by decide)
              refine lv_iconst (v := (nI 0)) hx hb dX8_takeKind_80 (by decide) ?_
              refine lv_goto (tgt := 85) hx hb dX8_takeKind_81 (by decide) ?_
              refine lv_iadd hx hb dX8_takeKind_85 ?_
              refine fs_vi (y := (nI a)) (nI_add _ 0) ?_
              refine fs_put E hP hS (k := 239) 14 fc8 m_1o (by omega) (by decide) (wm wl_16 (i := 12) rfl) rfl rfl rfl rfl (Nat.le_of_ble_eq_true rfl) dX8_takeKind_86 (fun ct_3 H locs q_4 hP hS => ?_)
              have h_5 : ct_3 239 = .inr (8, [.ref (fa g 240), .ref (fa g 241), .int (z 0), .ref (fa g 242), .ref (fa g 243), .ref (fa g 244), .int (z 1), .ref (fa g 245), .int (z 2), .ref (fa g 246), .ref (fa g 247), .ref (fa g 248), .int (z 3), .int (z 4), .int (nI a), .int y6, .int y7, .int y8, .int y9]) := by rw [q_4]; exact fu_eq _ _ _
              have h_6 : ct_3 240 = .inl (fcI g, 121, .inl (F 0)) := by rw [q_4]; exact (fu_ne (by omega)).trans m_1r0
              have h_7 : ct_3 241 = .inl (fcI g, 726, .inl (F 1)) := by rw [q_4]; exact (fu_ne (by omega)).trans m_1r1
              have h_8 : ct_3 242 = .inl (fcI g, 242, .inl (F 2)) := by rw [q_4]; exact (fu_ne (by omega)).trans m_1r2
              have h_9 : ct_3 243 = .inl (fcI g, 2, .inl (F 3)) := by rw [q_4]; exact (fu_ne (by omega)).trans m_1r3
              have h_10 : ct_3 244 = .inl (fcI g, 60, .inl (F 4)) := by rw [q_4]; exact (fu_ne (by omega)).trans m_1r4
              have h_11 : ct_3 245 = .inl (fcI g, 6, .inl (F 5)) := by rw [q_4]; exact (fu_ne (by omega)).trans m_1r5
              have h_12 : ct_3 246 = .inl (fcI g, 36, .inl (F 6)) := by rw [q_4]; exact (fu_ne (by omega)).trans m_1r6
              have h_13 : ct_3 247 = .inl (fcI g, 20, .inl (F 7)) := by rw [q_4]; exact (fu_ne (by omega)).trans m_1r7
              have h_14 : ct_3 248 = .inl (fcI g, 20, .inl (F 8)) := by rw [q_4]; exact (fu_ne (by omega)).trans m_1r8
              refine lv_iload_n hx hb dX8_takeKind_89 rfl (lv_at hl 0 rfl) ?_
              have MB_15 : MA g ct_3 (mkz (z 0) (z 1) (z 2) (z 3) (z 4) (nI a) y6 y7 y8 y9) F := ⟨h_5, h_6, h_7, h_8, h_9, h_10, h_11, h_12, h_13, h_14⟩
              refine fs_iret E hr hlk hP hS dX8_takeKind_90 ?_
              exact ⟨Or.inr ⟨chF_nk h128 c_12 c_22 c_32 c_42 c_52 c_62, rfl, MB_15⟩, (show fSame 239 249 _ _ from (fSame.ap fSame.rf q_4 (by omega) (by omega)))⟩
            · refine lv_iconst (v := (nI 5)) hx hb dX8_takeKind_65 (by decide) ?_
              refine lv_goto (tgt := 70) hx hb dX8_takeKind_66 (by decide) ?_
              refine lv_istore_n (lv' := [(2, .int (nI 5)), (1, .int (chF t len a)), (0, .ref (fa g 239))]) hx hb dX8_takeKind_70 rfl hl (by decide) rfl (fun ls hl => ?_)
              refine lv_aload_n hx hb dX8_takeKind_71 rfl (lv_at hl 2 rfl) ?_
              refine lv_dup hx hb dX8_takeKind_72 rfl ?_
              refine fs_get E hP (k := 239) (v := .int (nI a)) 14 fc8 m_1o (by omega) (by decide) (wm wl_16 (i := 12) rfl) rfl dX8_takeKind_73 ?_
              refine lv_iload_n hx hb dX8_takeKind_76 rfl (lv_at hl 0 rfl) ?_
              refine lv_if_ge (tgt := 84) hx hb dX8_takeKind_77 (by decide) (fun c_77 => ?_) (fun c_77 => ?_)
              rotate_left
              · exact absurd c_77 (by decide)
              refine lv_iconst (v := (nI 1)) hx hb dX8_takeKind_84 (by decide) ?_
              refine lv_iadd hx hb dX8_takeKind_85 ?_
              refine fs_vi (y := (nI (a + 1))) (nI_1 _) ?_
              refine fs_put E hP hS (k := 239) 14 fc8 m_1o (by omega) (by decide) (wm wl_16 (i := 12) rfl) rfl rfl rfl rfl (Nat.le_of_ble_eq_true rfl) dX8_takeKind_86 (fun ct_16 H locs q_17 hP hS => ?_)
              have h_18 : ct_16 239 = .inr (8, [.ref (fa g 240), .ref (fa g 241), .int (z 0), .ref (fa g 242), .ref (fa g 243), .ref (fa g 244), .int (z 1), .ref (fa g 245), .int (z 2), .ref (fa g 246), .ref (fa g 247), .ref (fa g 248), .int (z 3), .int (z 4), .int (nI (a + 1)), .int y6, .int y7, .int y8, .int y9]) := by rw [q_17]; exact fu_eq _ _ _
              have h_19 : ct_16 240 = .inl (fcI g, 121, .inl (F 0)) := by rw [q_17]; exact (fu_ne (by omega)).trans m_1r0
              have h_20 : ct_16 241 = .inl (fcI g, 726, .inl (F 1)) := by rw [q_17]; exact (fu_ne (by omega)).trans m_1r1
              have h_21 : ct_16 242 = .inl (fcI g, 242, .inl (F 2)) := by rw [q_17]; exact (fu_ne (by omega)).trans m_1r2
              have h_22 : ct_16 243 = .inl (fcI g, 2, .inl (F 3)) := by rw [q_17]; exact (fu_ne (by omega)).trans m_1r3
              have h_23 : ct_16 244 = .inl (fcI g, 60, .inl (F 4)) := by rw [q_17]; exact (fu_ne (by omega)).trans m_1r4
              have h_24 : ct_16 245 = .inl (fcI g, 6, .inl (F 5)) := by rw [q_17]; exact (fu_ne (by omega)).trans m_1r5
              have h_25 : ct_16 246 = .inl (fcI g, 36, .inl (F 6)) := by rw [q_17]; exact (fu_ne (by omega)).trans m_1r6
              have h_26 : ct_16 247 = .inl (fcI g, 20, .inl (F 7)) := by rw [q_17]; exact (fu_ne (by omega)).trans m_1r7
              have h_27 : ct_16 248 = .inl (fcI g, 20, .inl (F 8)) := by rw [q_17]; exact (fu_ne (by omega)).trans m_1r8
              refine lv_iload_n hx hb dX8_takeKind_89 rfl (lv_at hl 0 rfl) ?_
              have MB_28 : MA g ct_16 (mkz (z 0) (z 1) (z 2) (z 3) (z 4) (nI (a + 1)) y6 y7 y8 y9) F := ⟨h_18, h_19, h_20, h_21, h_22, h_23, h_24, h_25, h_26, h_27⟩
              have hk0 := chF_k (kk := 5) h128 (show 42 < 128 by omega) rfl c_62
              refine fs_iret E hr hlk hP hS dX8_takeKind_90 ?_
              exact ⟨Or.inl ⟨⟨hk0.1, by rw [hk0.2]; omega⟩, (congrArg nI hk0.2.symm), MB_28⟩, (show fSame 239 249 _ _ from (fSame.ap fSame.rf q_17 (by omega) (by omega)))⟩
          · refine lv_iconst (v := (nI 4)) hx hb dX8_takeKind_55 (by decide) ?_
            refine lv_goto (tgt := 70) hx hb dX8_takeKind_56 (by decide) ?_
            refine lv_istore_n (lv' := [(2, .int (nI 4)), (1, .int (chF t len a)), (0, .ref (fa g 239))]) hx hb dX8_takeKind_70 rfl hl (by decide) rfl (fun ls hl => ?_)
            refine lv_aload_n hx hb dX8_takeKind_71 rfl (lv_at hl 2 rfl) ?_
            refine lv_dup hx hb dX8_takeKind_72 rfl ?_
            refine fs_get E hP (k := 239) (v := .int (nI a)) 14 fc8 m_1o (by omega) (by decide) (wm wl_16 (i := 12) rfl) rfl dX8_takeKind_73 ?_
            refine lv_iload_n hx hb dX8_takeKind_76 rfl (lv_at hl 0 rfl) ?_
            refine lv_if_ge (tgt := 84) hx hb dX8_takeKind_77 (by decide) (fun c_77 => ?_) (fun c_77 => ?_)
            rotate_left
            · exact absurd c_77 (by decide)
            refine lv_iconst (v := (nI 1)) hx hb dX8_takeKind_84 (by decide) ?_
            refine lv_iadd hx hb dX8_takeKind_85 ?_
            refine fs_vi (y := (nI (a + 1))) (nI_1 _) ?_
            refine fs_put E hP hS (k := 239) 14 fc8 m_1o (by omega) (by decide) (wm wl_16 (i := 12) rfl) rfl rfl rfl rfl (Nat.le_of_ble_eq_true rfl) dX8_takeKind_86 (fun ct_29 H locs q_30 hP hS => ?_)
            have h_31 : ct_29 239 = .inr (8, [.ref (fa g 240), .ref (fa g 241), .int (z 0), .ref (fa g 242), .ref (fa g 243), .ref (fa g 244), .int (z 1), .ref (fa g 245), .int (z 2), .ref (fa g 246), .ref (fa g 247), .ref (fa g 248), .int (z 3), .int (z 4), .int (nI (a + 1)), .int y6, .int y7, .int y8, .int y9]) := by rw [q_30]; exact fu_eq _ _ _
            have h_32 : ct_29 240 = .inl (fcI g, 121, .inl (F 0)) := by rw [q_30]; exact (fu_ne (by omega)).trans m_1r0
            have h_33 : ct_29 241 = .inl (fcI g, 726, .inl (F 1)) := by rw [q_30]; exact (fu_ne (by omega)).trans m_1r1
            have h_34 : ct_29 242 = .inl (fcI g, 242, .inl (F 2)) := by rw [q_30]; exact (fu_ne (by omega)).trans m_1r2
            have h_35 : ct_29 243 = .inl (fcI g, 2, .inl (F 3)) := by rw [q_30]; exact (fu_ne (by omega)).trans m_1r3
            have h_36 : ct_29 244 = .inl (fcI g, 60, .inl (F 4)) := by rw [q_30]; exact (fu_ne (by omega)).trans m_1r4
            have h_37 : ct_29 245 = .inl (fcI g, 6, .inl (F 5)) := by rw [q_30]; exact (fu_ne (by omega)).trans m_1r5
            have h_38 : ct_29 246 = .inl (fcI g, 36, .inl (F 6)) := by rw [q_30]; exact (fu_ne (by omega)).trans m_1r6
            have h_39 : ct_29 247 = .inl (fcI g, 20, .inl (F 7)) := by rw [q_30]; exact (fu_ne (by omega)).trans m_1r7
            have h_40 : ct_29 248 = .inl (fcI g, 20, .inl (F 8)) := by rw [q_30]; exact (fu_ne (by omega)).trans m_1r8
            refine lv_iload_n hx hb dX8_takeKind_89 rfl (lv_at hl 0 rfl) ?_
            have MB_41 : MA g ct_29 (mkz (z 0) (z 1) (z 2) (z 3) (z 4) (nI (a + 1)) y6 y7 y8 y9) F := ⟨h_31, h_32, h_33, h_34, h_35, h_36, h_37, h_38, h_39, h_40⟩
            have hk0 := chF_k (kk := 4) h128 (show 35 < 128 by omega) rfl c_52
            refine fs_iret E hr hlk hP hS dX8_takeKind_90 ?_
            exact ⟨Or.inl ⟨⟨hk0.1, by rw [hk0.2]; omega⟩, (congrArg nI hk0.2.symm), MB_41⟩, (show fSame 239 249 _ _ from (fSame.ap fSame.rf q_30 (by omega) (by omega)))⟩
        · refine lv_iconst (v := (nI 3)) hx hb dX8_takeKind_45 (by decide) ?_
          refine lv_goto (tgt := 70) hx hb dX8_takeKind_46 (by decide) ?_
          refine lv_istore_n (lv' := [(2, .int (nI 3)), (1, .int (chF t len a)), (0, .ref (fa g 239))]) hx hb dX8_takeKind_70 rfl hl (by decide) rfl (fun ls hl => ?_)
          refine lv_aload_n hx hb dX8_takeKind_71 rfl (lv_at hl 2 rfl) ?_
          refine lv_dup hx hb dX8_takeKind_72 rfl ?_
          refine fs_get E hP (k := 239) (v := .int (nI a)) 14 fc8 m_1o (by omega) (by decide) (wm wl_16 (i := 12) rfl) rfl dX8_takeKind_73 ?_
          refine lv_iload_n hx hb dX8_takeKind_76 rfl (lv_at hl 0 rfl) ?_
          refine lv_if_ge (tgt := 84) hx hb dX8_takeKind_77 (by decide) (fun c_77 => ?_) (fun c_77 => ?_)
          rotate_left
          · exact absurd c_77 (by decide)
          refine lv_iconst (v := (nI 1)) hx hb dX8_takeKind_84 (by decide) ?_
          refine lv_iadd hx hb dX8_takeKind_85 ?_
          refine fs_vi (y := (nI (a + 1))) (nI_1 _) ?_
          refine fs_put E hP hS (k := 239) 14 fc8 m_1o (by omega) (by decide) (wm wl_16 (i := 12) rfl) rfl rfl rfl rfl (Nat.le_of_ble_eq_true rfl) dX8_takeKind_86 (fun ct_42 H locs q_43 hP hS => ?_)
          have h_44 : ct_42 239 = .inr (8, [.ref (fa g 240), .ref (fa g 241), .int (z 0), .ref (fa g 242), .ref (fa g 243), .ref (fa g 244), .int (z 1), .ref (fa g 245), .int (z 2), .ref (fa g 246), .ref (fa g 247), .ref (fa g 248), .int (z 3), .int (z 4), .int (nI (a + 1)), .int y6, .int y7, .int y8, .int y9]) := by rw [q_43]; exact fu_eq _ _ _
          have h_45 : ct_42 240 = .inl (fcI g, 121, .inl (F 0)) := by rw [q_43]; exact (fu_ne (by omega)).trans m_1r0
          have h_46 : ct_42 241 = .inl (fcI g, 726, .inl (F 1)) := by rw [q_43]; exact (fu_ne (by omega)).trans m_1r1
          have h_47 : ct_42 242 = .inl (fcI g, 242, .inl (F 2)) := by rw [q_43]; exact (fu_ne (by omega)).trans m_1r2
          have h_48 : ct_42 243 = .inl (fcI g, 2, .inl (F 3)) := by rw [q_43]; exact (fu_ne (by omega)).trans m_1r3
          have h_49 : ct_42 244 = .inl (fcI g, 60, .inl (F 4)) := by rw [q_43]; exact (fu_ne (by omega)).trans m_1r4
          have h_50 : ct_42 245 = .inl (fcI g, 6, .inl (F 5)) := by rw [q_43]; exact (fu_ne (by omega)).trans m_1r5
          have h_51 : ct_42 246 = .inl (fcI g, 36, .inl (F 6)) := by rw [q_43]; exact (fu_ne (by omega)).trans m_1r6
          have h_52 : ct_42 247 = .inl (fcI g, 20, .inl (F 7)) := by rw [q_43]; exact (fu_ne (by omega)).trans m_1r7
          have h_53 : ct_42 248 = .inl (fcI g, 20, .inl (F 8)) := by rw [q_43]; exact (fu_ne (by omega)).trans m_1r8
          refine lv_iload_n hx hb dX8_takeKind_89 rfl (lv_at hl 0 rfl) ?_
          have MB_54 : MA g ct_42 (mkz (z 0) (z 1) (z 2) (z 3) (z 4) (nI (a + 1)) y6 y7 y8 y9) F := ⟨h_44, h_45, h_46, h_47, h_48, h_49, h_50, h_51, h_52, h_53⟩
          have hk0 := chF_k (kk := 3) h128 (show 126 < 128 by omega) rfl c_42
          refine fs_iret E hr hlk hP hS dX8_takeKind_90 ?_
          exact ⟨Or.inl ⟨⟨hk0.1, by rw [hk0.2]; omega⟩, (congrArg nI hk0.2.symm), MB_54⟩, (show fSame 239 249 _ _ from (fSame.ap fSame.rf q_43 (by omega) (by omega)))⟩
      · refine lv_iconst (v := (nI 2)) hx hb dX8_takeKind_35 (by decide) ?_
        refine lv_goto (tgt := 70) hx hb dX8_takeKind_36 (by decide) ?_
        refine lv_istore_n (lv' := [(2, .int (nI 2)), (1, .int (chF t len a)), (0, .ref (fa g 239))]) hx hb dX8_takeKind_70 rfl hl (by decide) rfl (fun ls hl => ?_)
        refine lv_aload_n hx hb dX8_takeKind_71 rfl (lv_at hl 2 rfl) ?_
        refine lv_dup hx hb dX8_takeKind_72 rfl ?_
        refine fs_get E hP (k := 239) (v := .int (nI a)) 14 fc8 m_1o (by omega) (by decide) (wm wl_16 (i := 12) rfl) rfl dX8_takeKind_73 ?_
        refine lv_iload_n hx hb dX8_takeKind_76 rfl (lv_at hl 0 rfl) ?_
        refine lv_if_ge (tgt := 84) hx hb dX8_takeKind_77 (by decide) (fun c_77 => ?_) (fun c_77 => ?_)
        rotate_left
        · exact absurd c_77 (by decide)
        refine lv_iconst (v := (nI 1)) hx hb dX8_takeKind_84 (by decide) ?_
        refine lv_iadd hx hb dX8_takeKind_85 ?_
        refine fs_vi (y := (nI (a + 1))) (nI_1 _) ?_
        refine fs_put E hP hS (k := 239) 14 fc8 m_1o (by omega) (by decide) (wm wl_16 (i := 12) rfl) rfl rfl rfl rfl (Nat.le_of_ble_eq_true rfl) dX8_takeKind_86 (fun ct_55 H locs q_56 hP hS => ?_)
        have h_57 : ct_55 239 = .inr (8, [.ref (fa g 240), .ref (fa g 241), .int (z 0), .ref (fa g 242), .ref (fa g 243), .ref (fa g 244), .int (z 1), .ref (fa g 245), .int (z 2), .ref (fa g 246), .ref (fa g 247), .ref (fa g 248), .int (z 3), .int (z 4), .int (nI (a + 1)), .int y6, .int y7, .int y8, .int y9]) := by rw [q_56]; exact fu_eq _ _ _
        have h_58 : ct_55 240 = .inl (fcI g, 121, .inl (F 0)) := by rw [q_56]; exact (fu_ne (by omega)).trans m_1r0
        have h_59 : ct_55 241 = .inl (fcI g, 726, .inl (F 1)) := by rw [q_56]; exact (fu_ne (by omega)).trans m_1r1
        have h_60 : ct_55 242 = .inl (fcI g, 242, .inl (F 2)) := by rw [q_56]; exact (fu_ne (by omega)).trans m_1r2
        have h_61 : ct_55 243 = .inl (fcI g, 2, .inl (F 3)) := by rw [q_56]; exact (fu_ne (by omega)).trans m_1r3
        have h_62 : ct_55 244 = .inl (fcI g, 60, .inl (F 4)) := by rw [q_56]; exact (fu_ne (by omega)).trans m_1r4
        have h_63 : ct_55 245 = .inl (fcI g, 6, .inl (F 5)) := by rw [q_56]; exact (fu_ne (by omega)).trans m_1r5
        have h_64 : ct_55 246 = .inl (fcI g, 36, .inl (F 6)) := by rw [q_56]; exact (fu_ne (by omega)).trans m_1r6
        have h_65 : ct_55 247 = .inl (fcI g, 20, .inl (F 7)) := by rw [q_56]; exact (fu_ne (by omega)).trans m_1r7
        have h_66 : ct_55 248 = .inl (fcI g, 20, .inl (F 8)) := by rw [q_56]; exact (fu_ne (by omega)).trans m_1r8
        refine lv_iload_n hx hb dX8_takeKind_89 rfl (lv_at hl 0 rfl) ?_
        have MB_67 : MA g ct_55 (mkz (z 0) (z 1) (z 2) (z 3) (z 4) (nI (a + 1)) y6 y7 y8 y9) F := ⟨h_57, h_58, h_59, h_60, h_61, h_62, h_63, h_64, h_65, h_66⟩
        have hk0 := chF_k (kk := 2) h128 (show 61 < 128 by omega) rfl c_32
        refine fs_iret E hr hlk hP hS dX8_takeKind_90 ?_
        exact ⟨Or.inl ⟨⟨hk0.1, by rw [hk0.2]; omega⟩, (congrArg nI hk0.2.symm), MB_67⟩, (show fSame 239 249 _ _ from (fSame.ap fSame.rf q_56 (by omega) (by omega)))⟩
    · refine lv_iconst (v := (nI 1)) hx hb dX8_takeKind_25 (by decide) ?_
      refine lv_goto (tgt := 70) hx hb dX8_takeKind_26 (by decide) ?_
      refine lv_istore_n (lv' := [(2, .int (nI 1)), (1, .int (chF t len a)), (0, .ref (fa g 239))]) hx hb dX8_takeKind_70 rfl hl (by decide) rfl (fun ls hl => ?_)
      refine lv_aload_n hx hb dX8_takeKind_71 rfl (lv_at hl 2 rfl) ?_
      refine lv_dup hx hb dX8_takeKind_72 rfl ?_
      refine fs_get E hP (k := 239) (v := .int (nI a)) 14 fc8 m_1o (by omega) (by decide) (wm wl_16 (i := 12) rfl) rfl dX8_takeKind_73 ?_
      refine lv_iload_n hx hb dX8_takeKind_76 rfl (lv_at hl 0 rfl) ?_
      refine lv_if_ge (tgt := 84) hx hb dX8_takeKind_77 (by decide) (fun c_77 => ?_) (fun c_77 => ?_)
      rotate_left
      · exact absurd c_77 (by decide)
      refine lv_iconst (v := (nI 1)) hx hb dX8_takeKind_84 (by decide) ?_
      refine lv_iadd hx hb dX8_takeKind_85 ?_
      refine fs_vi (y := (nI (a + 1))) (nI_1 _) ?_
      refine fs_put E hP hS (k := 239) 14 fc8 m_1o (by omega) (by decide) (wm wl_16 (i := 12) rfl) rfl rfl rfl rfl (Nat.le_of_ble_eq_true rfl) dX8_takeKind_86 (fun ct_68 H locs q_69 hP hS => ?_)
      have h_70 : ct_68 239 = .inr (8, [.ref (fa g 240), .ref (fa g 241), .int (z 0), .ref (fa g 242), .ref (fa g 243), .ref (fa g 244), .int (z 1), .ref (fa g 245), .int (z 2), .ref (fa g 246), .ref (fa g 247), .ref (fa g 248), .int (z 3), .int (z 4), .int (nI (a + 1)), .int y6, .int y7, .int y8, .int y9]) := by rw [q_69]; exact fu_eq _ _ _
      have h_71 : ct_68 240 = .inl (fcI g, 121, .inl (F 0)) := by rw [q_69]; exact (fu_ne (by omega)).trans m_1r0
      have h_72 : ct_68 241 = .inl (fcI g, 726, .inl (F 1)) := by rw [q_69]; exact (fu_ne (by omega)).trans m_1r1
      have h_73 : ct_68 242 = .inl (fcI g, 242, .inl (F 2)) := by rw [q_69]; exact (fu_ne (by omega)).trans m_1r2
      have h_74 : ct_68 243 = .inl (fcI g, 2, .inl (F 3)) := by rw [q_69]; exact (fu_ne (by omega)).trans m_1r3
      have h_75 : ct_68 244 = .inl (fcI g, 60, .inl (F 4)) := by rw [q_69]; exact (fu_ne (by omega)).trans m_1r4
      have h_76 : ct_68 245 = .inl (fcI g, 6, .inl (F 5)) := by rw [q_69]; exact (fu_ne (by omega)).trans m_1r5
      have h_77 : ct_68 246 = .inl (fcI g, 36, .inl (F 6)) := by rw [q_69]; exact (fu_ne (by omega)).trans m_1r6
      have h_78 : ct_68 247 = .inl (fcI g, 20, .inl (F 7)) := by rw [q_69]; exact (fu_ne (by omega)).trans m_1r7
      have h_79 : ct_68 248 = .inl (fcI g, 20, .inl (F 8)) := by rw [q_69]; exact (fu_ne (by omega)).trans m_1r8
      refine lv_iload_n hx hb dX8_takeKind_89 rfl (lv_at hl 0 rfl) ?_
      have MB_80 : MA g ct_68 (mkz (z 0) (z 1) (z 2) (z 3) (z 4) (nI (a + 1)) y6 y7 y8 y9) F := ⟨h_70, h_71, h_72, h_73, h_74, h_75, h_76, h_77, h_78, h_79⟩
      have hk0 := chF_k (kk := 1) h128 (show 47 < 128 by omega) rfl c_22
      refine fs_iret E hr hlk hP hS dX8_takeKind_90 ?_
      exact ⟨Or.inl ⟨⟨hk0.1, by rw [hk0.2]; omega⟩, (congrArg nI hk0.2.symm), MB_80⟩, (show fSame 239 249 _ _ from (fSame.ap fSame.rf q_69 (by omega) (by omega)))⟩
  · refine lv_iconst (v := (nI 0)) hx hb dX8_takeKind_15 (by decide) ?_
    refine lv_goto (tgt := 70) hx hb dX8_takeKind_16 (by decide) ?_
    refine lv_istore_n (lv' := [(2, .int (nI 0)), (1, .int (chF t len a)), (0, .ref (fa g 239))]) hx hb dX8_takeKind_70 rfl hl (by decide) rfl (fun ls hl => ?_)
    refine lv_aload_n hx hb dX8_takeKind_71 rfl (lv_at hl 2 rfl) ?_
    refine lv_dup hx hb dX8_takeKind_72 rfl ?_
    refine fs_get E hP (k := 239) (v := .int (nI a)) 14 fc8 m_1o (by omega) (by decide) (wm wl_16 (i := 12) rfl) rfl dX8_takeKind_73 ?_
    refine lv_iload_n hx hb dX8_takeKind_76 rfl (lv_at hl 0 rfl) ?_
    refine lv_if_ge (tgt := 84) hx hb dX8_takeKind_77 (by decide) (fun c_77 => ?_) (fun c_77 => ?_)
    rotate_left
    · exact absurd c_77 (by decide)
    refine lv_iconst (v := (nI 1)) hx hb dX8_takeKind_84 (by decide) ?_
    refine lv_iadd hx hb dX8_takeKind_85 ?_
    refine fs_vi (y := (nI (a + 1))) (nI_1 _) ?_
    refine fs_put E hP hS (k := 239) 14 fc8 m_1o (by omega) (by decide) (wm wl_16 (i := 12) rfl) rfl rfl rfl rfl (Nat.le_of_ble_eq_true rfl) dX8_takeKind_86 (fun ct_81 H locs q_82 hP hS => ?_)
    have h_83 : ct_81 239 = .inr (8, [.ref (fa g 240), .ref (fa g 241), .int (z 0), .ref (fa g 242), .ref (fa g 243), .ref (fa g 244), .int (z 1), .ref (fa g 245), .int (z 2), .ref (fa g 246), .ref (fa g 247), .ref (fa g 248), .int (z 3), .int (z 4), .int (nI (a + 1)), .int y6, .int y7, .int y8, .int y9]) := by rw [q_82]; exact fu_eq _ _ _
    have h_84 : ct_81 240 = .inl (fcI g, 121, .inl (F 0)) := by rw [q_82]; exact (fu_ne (by omega)).trans m_1r0
    have h_85 : ct_81 241 = .inl (fcI g, 726, .inl (F 1)) := by rw [q_82]; exact (fu_ne (by omega)).trans m_1r1
    have h_86 : ct_81 242 = .inl (fcI g, 242, .inl (F 2)) := by rw [q_82]; exact (fu_ne (by omega)).trans m_1r2
    have h_87 : ct_81 243 = .inl (fcI g, 2, .inl (F 3)) := by rw [q_82]; exact (fu_ne (by omega)).trans m_1r3
    have h_88 : ct_81 244 = .inl (fcI g, 60, .inl (F 4)) := by rw [q_82]; exact (fu_ne (by omega)).trans m_1r4
    have h_89 : ct_81 245 = .inl (fcI g, 6, .inl (F 5)) := by rw [q_82]; exact (fu_ne (by omega)).trans m_1r5
    have h_90 : ct_81 246 = .inl (fcI g, 36, .inl (F 6)) := by rw [q_82]; exact (fu_ne (by omega)).trans m_1r6
    have h_91 : ct_81 247 = .inl (fcI g, 20, .inl (F 7)) := by rw [q_82]; exact (fu_ne (by omega)).trans m_1r7
    have h_92 : ct_81 248 = .inl (fcI g, 20, .inl (F 8)) := by rw [q_82]; exact (fu_ne (by omega)).trans m_1r8
    refine lv_iload_n hx hb dX8_takeKind_89 rfl (lv_at hl 0 rfl) ?_
    have MB_93 : MA g ct_81 (mkz (z 0) (z 1) (z 2) (z 3) (z 4) (nI (a + 1)) y6 y7 y8 y9) F := ⟨h_83, h_84, h_85, h_86, h_87, h_88, h_89, h_90, h_91, h_92⟩
    have hk0 := chF_k (kk := 0) h128 (show 62 < 128 by omega) rfl c_12
    refine fs_iret E hr hlk hP hS dX8_takeKind_90 ?_
    exact ⟨Or.inl ⟨⟨hk0.1, by rw [hk0.2]; omega⟩, (congrArg nI hk0.2.symm), MB_93⟩, (show fSame 239 249 _ _ from (fSame.ap fSame.rf q_82 (by omega) (by omega)))⟩

set_option maxRecDepth 100000 in
set_option maxHeartbeats 4000000 in
theorem c_X8_readsRumour (l : Launch) (g : fG) (N : Nat) (ct : Nat → va_E) (z : Nat → Int32) (F : Nat → Nat → Int32) (t : Nat → Nat) (len a : Nat) (y6 y7 y8 y9 : Int32) (hN : 249 ≤ N) (hM : MA g ct (mkz (z 0) (z 1) (z 2) (z 3) (z 4) (nI a) y6 y7 y8 y9) F) (hQ : RP t len z F) (h128 : ∀ i, i < len → t i < 128) (ha : a ≤ 66) (h6 : a % 6 = 0) : Met l yX8_readsRumour (wsU yX8_readsRumour cX8_readsRumour 1 (some .boolean)) rX8_readsRumour (fPre g N ct [.ref (fa g 239)]) (fQi g N (fun r ct1 => ((RdOk t len a ∧ r = nI 1 ∧ MA g ct1 (mkz (z 0) (z 1) (z 2) (z 3) (z 4) (nI (a + 5)) (nI (t a - 48)) (nI (kdn (t (a + 3)))) (nI (t (a + 2) - 48)) (nI (t (a + 4) - 48))) F) ∨ (∃ (b : Nat) (w6 w7 w8 w9 : Int32), RdNo t len a b ∧ r = nI 0 ∧ MA g ct1 (mkz (z 0) (z 1) (z 2) (z 3) (z 4) (nI b) w6 w7 w8 w9) F)) ∧ fSame 239 249 ct ct1)) 0 0 (fB g) := by
  refine fs_start (own := RX8) (lv0 := [(0, .ref (fa g 239))]) (by decide) rfl (Nat.le_of_ble_eq_true rfl) rfl ?_
  intro p e s m args below meth c ls E hr hlk hnm hP hl hS
  have hx := E.1.1
  have hb := E.1.2.1
  have m_1o : ct 239 = .inr (8, [.ref (fa g 240), .ref (fa g 241), .int (z 0), .ref (fa g 242), .ref (fa g 243), .ref (fa g 244), .int (z 1), .ref (fa g 245), .int (z 2), .ref (fa g 246), .ref (fa g 247), .ref (fa g 248), .int (z 3), .int (z 4), .int (nI a), .int y6, .int y7, .int y8, .int y9]) := (hM).1
  have m_1r0 : ct 240 = .inl (fcI g, 121, .inl (F 0)) := (hM).2.1
  have m_1r1 : ct 241 = .inl (fcI g, 726, .inl (F 1)) := (hM).2.2.1
  have m_1r2 : ct 242 = .inl (fcI g, 242, .inl (F 2)) := (hM).2.2.2.1
  have m_1r3 : ct 243 = .inl (fcI g, 2, .inl (F 3)) := (hM).2.2.2.2.1
  have m_1r4 : ct 244 = .inl (fcI g, 60, .inl (F 4)) := (hM).2.2.2.2.2.1
  have m_1r5 : ct 245 = .inl (fcI g, 6, .inl (F 5)) := (hM).2.2.2.2.2.2.1
  have m_1r6 : ct 246 = .inl (fcI g, 36, .inl (F 6)) := (hM).2.2.2.2.2.2.2.1
  have m_1r7 : ct 247 = .inl (fcI g, 20, .inl (F 7)) := (hM).2.2.2.2.2.2.2.2.1
  have m_1r8 : ct 248 = .inl (fcI g, 20, .inl (F 8)) := (hM).2.2.2.2.2.2.2.2.2
  have hl60 := hQ.2.1
  refine lv_aload_n hx hb dX8_readsRumour_0 rfl (lv_at hl 0 rfl) ?_
  refine lv_aload_n hx hb dX8_readsRumour_1 rfl (lv_at hl 0 rfl) ?_
  refine lv_iconst (v := (nI 5)) hx hb dX8_readsRumour_2 (by decide) ?_
  have MB_2 : MA g ct (mkz (z 0) (z 1) (z 2) (z 3) (z 4) (nI a) y6 y7 y8 y9) F := ⟨m_1o, m_1r0, m_1r1, m_1r2, m_1r3, m_1r4, m_1r5, m_1r6, m_1r7, m_1r8⟩
  refine fs_i (va_runV (As := [.int (nI 5)]) (rest := [.ref (fa g 239)]) E.1 (c_X8_takeDigit l g N ct z F t len a y6 y7 y8 y9 (by omega) MB_2 hQ h128 (by omega) 5 (by omega)) (lk_RX8_184 E.1.2.2.2.2 ⟨Nat.le_of_ble_eq_true rfl, Nat.le_of_ble_eq_true rfl⟩) (fpreV E hP hS fc8 m_1o (by omega)) rfl rfl hl.1 rfl (lv_room (Nat.le_of_ble_eq_true rfl)) dX8_readsRumour_3 ⟨Nat.zero_le _, Nat.zero_le _⟩) hS (fun r_3 ct_3 H locs p_3 hP hS => ?_)
  obtain ⟨u_3, s_3⟩ := p_3
  rcases u_3 with ⟨A_3, e_3, M_3⟩ | ⟨A_3, e_3, M_3⟩
  · have m_4o : ct_3 239 = .inr (8, [.ref (fa g 240), .ref (fa g 241), .int (z 0), .ref (fa g 242), .ref (fa g 243), .ref (fa g 244), .int (z 1), .ref (fa g 245), .int (z 2), .ref (fa g 246), .ref (fa g 247), .ref (fa g 248), .int (z 3), .int (z 4), .int (nI (a + 1)), .int y6, .int y7, .int y8, .int y9]) := (M_3).1
    have m_4r0 : ct_3 240 = .inl (fcI g, 121, .inl (F 0)) := (M_3).2.1
    have m_4r1 : ct_3 241 = .inl (fcI g, 726, .inl (F 1)) := (M_3).2.2.1
    have m_4r2 : ct_3 242 = .inl (fcI g, 242, .inl (F 2)) := (M_3).2.2.2.1
    have m_4r3 : ct_3 243 = .inl (fcI g, 2, .inl (F 3)) := (M_3).2.2.2.2.1
    have m_4r4 : ct_3 244 = .inl (fcI g, 60, .inl (F 4)) := (M_3).2.2.2.2.2.1
    have m_4r5 : ct_3 245 = .inl (fcI g, 6, .inl (F 5)) := (M_3).2.2.2.2.2.2.1
    have m_4r6 : ct_3 246 = .inl (fcI g, 36, .inl (F 6)) := (M_3).2.2.2.2.2.2.2.1
    have m_4r7 : ct_3 247 = .inl (fcI g, 20, .inl (F 7)) := (M_3).2.2.2.2.2.2.2.2.1
    have m_4r8 : ct_3 248 = .inl (fcI g, 20, .inl (F 8)) := (M_3).2.2.2.2.2.2.2.2.2
    refine fs_vi (y := (nI (t a - 48))) e_3 ?_
    have hb_3 := h128 a A_3.1
    refine fs_put E hP hS (k := 239) 15 fc8 m_4o (by omega) (by decide) (wm wl_16 (i := 14) rfl) rfl rfl rfl rfl (Nat.le_of_ble_eq_true rfl) dX8_readsRumour_6 (fun ct_5 H locs q_6 hP hS => ?_)
    have h_7 : ct_5 239 = .inr (8, [.ref (fa g 240), .ref (fa g 241), .int (z 0), .ref (fa g 242), .ref (fa g 243), .ref (fa g 244), .int (z 1), .ref (fa g 245), .int (z 2), .ref (fa g 246), .ref (fa g 247), .ref (fa g 248), .int (z 3), .int (z 4), .int (nI (a + 1)), .int (nI (t a - 48)), .int y7, .int y8, .int y9]) := by rw [q_6]; exact fu_eq _ _ _
    have h_8 : ct_5 240 = .inl (fcI g, 121, .inl (F 0)) := by rw [q_6]; exact (fu_ne (by omega)).trans m_4r0
    have h_9 : ct_5 241 = .inl (fcI g, 726, .inl (F 1)) := by rw [q_6]; exact (fu_ne (by omega)).trans m_4r1
    have h_10 : ct_5 242 = .inl (fcI g, 242, .inl (F 2)) := by rw [q_6]; exact (fu_ne (by omega)).trans m_4r2
    have h_11 : ct_5 243 = .inl (fcI g, 2, .inl (F 3)) := by rw [q_6]; exact (fu_ne (by omega)).trans m_4r3
    have h_12 : ct_5 244 = .inl (fcI g, 60, .inl (F 4)) := by rw [q_6]; exact (fu_ne (by omega)).trans m_4r4
    have h_13 : ct_5 245 = .inl (fcI g, 6, .inl (F 5)) := by rw [q_6]; exact (fu_ne (by omega)).trans m_4r5
    have h_14 : ct_5 246 = .inl (fcI g, 36, .inl (F 6)) := by rw [q_6]; exact (fu_ne (by omega)).trans m_4r6
    have h_15 : ct_5 247 = .inl (fcI g, 20, .inl (F 7)) := by rw [q_6]; exact (fu_ne (by omega)).trans m_4r7
    have h_16 : ct_5 248 = .inl (fcI g, 20, .inl (F 8)) := by rw [q_6]; exact (fu_ne (by omega)).trans m_4r8
    refine lv_aload_n hx hb dX8_readsRumour_9 rfl (lv_at hl 0 rfl) ?_
    refine lv_aload_n hx hb dX8_readsRumour_10 rfl (lv_at hl 0 rfl) ?_
    refine fs_get E hP (k := 239) (v := .int (nI (t a - 48))) 15 fc8 h_7 (by omega) (by decide) (wm wl_16 (i := 14) rfl) rfl dX8_readsRumour_11 ?_
    refine lv_if_lt (tgt := 34) hx hb dX8_readsRumour_14 (by decide) (fun c_14 => ?_) (fun c_14 => ?_)
    · exact absurd c_14 (by rw [fz_ltN (by omega)]; omega)
    refine lv_aload_n hx hb dX8_readsRumour_17 rfl (lv_at hl 0 rfl) ?_
    refine lv_bipush (v := (nI 58)) hx hb dX8_readsRumour_18 (by decide) ?_
    have MB_17 : MA g ct_5 (mkz (z 0) (z 1) (z 2) (z 3) (z 4) (nI (a + 1)) (nI (t a - 48)) y7 y8 y9) F := ⟨h_7, h_8, h_9, h_10, h_11, h_12, h_13, h_14, h_15, h_16⟩
    refine fs_i (va_runV (As := [.int (nI 58)]) (rest := [.ref (fa g 239)]) E.1 (c_X8_isNext l g N ct_5 z F t len (a + 1) (nI (t a - 48)) y7 y8 y9 (by omega) MB_17 hQ h128 (by omega) 58 (by omega)) (lk_RX8_125 E.1.2.2.2.2 ⟨Nat.le_of_ble_eq_true rfl, Nat.le_of_ble_eq_true rfl⟩) (fpreV E hP hS fc8 h_7 (by omega)) rfl rfl hl.1 rfl (lv_room (Nat.le_of_ble_eq_true rfl)) dX8_readsRumour_20 ⟨Nat.zero_le _, Nat.zero_le _⟩) hS (fun r_20 ct_18 H locs p_20 hP hS => ?_)
    obtain ⟨u_20, s_20⟩ := p_20
    rcases u_20 with ⟨A_20, e_20, M_20⟩ | ⟨A_20, e_20, M_20⟩
    · have m_19o : ct_18 239 = .inr (8, [.ref (fa g 240), .ref (fa g 241), .int (z 0), .ref (fa g 242), .ref (fa g 243), .ref (fa g 244), .int (z 1), .ref (fa g 245), .int (z 2), .ref (fa g 246), .ref (fa g 247), .ref (fa g 248), .int (z 3), .int (z 4), .int (nI (a + 2)), .int (nI (t a - 48)), .int y7, .int y8, .int y9]) := (M_20).1
      have m_19r0 : ct_18 240 = .inl (fcI g, 121, .inl (F 0)) := (M_20).2.1
      have m_19r1 : ct_18 241 = .inl (fcI g, 726, .inl (F 1)) := (M_20).2.2.1
      have m_19r2 : ct_18 242 = .inl (fcI g, 242, .inl (F 2)) := (M_20).2.2.2.1
      have m_19r3 : ct_18 243 = .inl (fcI g, 2, .inl (F 3)) := (M_20).2.2.2.2.1
      have m_19r4 : ct_18 244 = .inl (fcI g, 60, .inl (F 4)) := (M_20).2.2.2.2.2.1
      have m_19r5 : ct_18 245 = .inl (fcI g, 6, .inl (F 5)) := (M_20).2.2.2.2.2.2.1
      have m_19r6 : ct_18 246 = .inl (fcI g, 36, .inl (F 6)) := (M_20).2.2.2.2.2.2.2.1
      have m_19r7 : ct_18 247 = .inl (fcI g, 20, .inl (F 7)) := (M_20).2.2.2.2.2.2.2.2.1
      have m_19r8 : ct_18 248 = .inl (fcI g, 20, .inl (F 8)) := (M_20).2.2.2.2.2.2.2.2.2
      refine fs_vi (y := (nI 1)) e_20 ?_
      refine lv_if_eq (tgt := 34) hx hb dX8_readsRumour_23 (by decide) (fun c_23 => ?_) (fun c_23 => ?_)
      · exact absurd c_23 (by decide)
      refine lv_aload_n hx hb dX8_readsRumour_26 rfl (lv_at hl 0 rfl) ?_
      refine lv_iconst (v := (nI 5)) hx hb dX8_readsRumour_27 (by decide) ?_
      have MB_20 : MA g ct_18 (mkz (z 0) (z 1) (z 2) (z 3) (z 4) (nI (a + 2)) (nI (t a - 48)) y7 y8 y9) F := ⟨m_19o, m_19r0, m_19r1, m_19r2, m_19r3, m_19r4, m_19r5, m_19r6, m_19r7, m_19r8⟩
      refine fs_i (va_runV (As := [.int (nI 5)]) (rest := [.ref (fa g 239)]) E.1 (c_X8_takeDigit l g N ct_18 z F t len (a + 2) (nI (t a - 48)) y7 y8 y9 (by omega) MB_20 hQ h128 (by omega) 5 (by omega)) (lk_RX8_184 E.1.2.2.2.2 ⟨Nat.le_of_ble_eq_true rfl, Nat.le_of_ble_eq_true rfl⟩) (fpreV E hP hS fc8 m_19o (by omega)) rfl rfl hl.1 rfl (lv_room (Nat.le_of_ble_eq_true rfl)) dX8_readsRumour_28 ⟨Nat.zero_le _, Nat.zero_le _⟩) hS (fun r_28 ct_21 H locs p_28 hP hS => ?_)
      obtain ⟨u_28, s_28⟩ := p_28
      rcases u_28 with ⟨A_28, e_28, M_28⟩ | ⟨A_28, e_28, M_28⟩
      · have m_22o : ct_21 239 = .inr (8, [.ref (fa g 240), .ref (fa g 241), .int (z 0), .ref (fa g 242), .ref (fa g 243), .ref (fa g 244), .int (z 1), .ref (fa g 245), .int (z 2), .ref (fa g 246), .ref (fa g 247), .ref (fa g 248), .int (z 3), .int (z 4), .int (nI (a + 3)), .int (nI (t a - 48)), .int y7, .int y8, .int y9]) := (M_28).1
        have m_22r0 : ct_21 240 = .inl (fcI g, 121, .inl (F 0)) := (M_28).2.1
        have m_22r1 : ct_21 241 = .inl (fcI g, 726, .inl (F 1)) := (M_28).2.2.1
        have m_22r2 : ct_21 242 = .inl (fcI g, 242, .inl (F 2)) := (M_28).2.2.2.1
        have m_22r3 : ct_21 243 = .inl (fcI g, 2, .inl (F 3)) := (M_28).2.2.2.2.1
        have m_22r4 : ct_21 244 = .inl (fcI g, 60, .inl (F 4)) := (M_28).2.2.2.2.2.1
        have m_22r5 : ct_21 245 = .inl (fcI g, 6, .inl (F 5)) := (M_28).2.2.2.2.2.2.1
        have m_22r6 : ct_21 246 = .inl (fcI g, 36, .inl (F 6)) := (M_28).2.2.2.2.2.2.2.1
        have m_22r7 : ct_21 247 = .inl (fcI g, 20, .inl (F 7)) := (M_28).2.2.2.2.2.2.2.2.1
        have m_22r8 : ct_21 248 = .inl (fcI g, 20, .inl (F 8)) := (M_28).2.2.2.2.2.2.2.2.2
        refine fs_vi (y := (nI (t (a + 2) - 48))) e_28 ?_
        have hb_28 := h128 (a + 2) A_28.1
        refine lv_goto (tgt := 35) hx hb dX8_readsRumour_31 (by decide) ?_
        refine fs_put E hP hS (k := 239) 17 fc8 m_22o (by omega) (by decide) (wm wl_16 (i := 16) rfl) rfl rfl rfl rfl (Nat.le_of_ble_eq_true rfl) dX8_readsRumour_35 (fun ct_23 H locs q_24 hP hS => ?_)
        have h_25 : ct_23 239 = .inr (8, [.ref (fa g 240), .ref (fa g 241), .int (z 0), .ref (fa g 242), .ref (fa g 243), .ref (fa g 244), .int (z 1), .ref (fa g 245), .int (z 2), .ref (fa g 246), .ref (fa g 247), .ref (fa g 248), .int (z 3), .int (z 4), .int (nI (a + 3)), .int (nI (t a - 48)), .int y7, .int (nI (t (a + 2) - 48)), .int y9]) := by rw [q_24]; exact fu_eq _ _ _
        have h_26 : ct_23 240 = .inl (fcI g, 121, .inl (F 0)) := by rw [q_24]; exact (fu_ne (by omega)).trans m_22r0
        have h_27 : ct_23 241 = .inl (fcI g, 726, .inl (F 1)) := by rw [q_24]; exact (fu_ne (by omega)).trans m_22r1
        have h_28 : ct_23 242 = .inl (fcI g, 242, .inl (F 2)) := by rw [q_24]; exact (fu_ne (by omega)).trans m_22r2
        have h_29 : ct_23 243 = .inl (fcI g, 2, .inl (F 3)) := by rw [q_24]; exact (fu_ne (by omega)).trans m_22r3
        have h_30 : ct_23 244 = .inl (fcI g, 60, .inl (F 4)) := by rw [q_24]; exact (fu_ne (by omega)).trans m_22r4
        have h_31 : ct_23 245 = .inl (fcI g, 6, .inl (F 5)) := by rw [q_24]; exact (fu_ne (by omega)).trans m_22r5
        have h_32 : ct_23 246 = .inl (fcI g, 36, .inl (F 6)) := by rw [q_24]; exact (fu_ne (by omega)).trans m_22r6
        have h_33 : ct_23 247 = .inl (fcI g, 20, .inl (F 7)) := by rw [q_24]; exact (fu_ne (by omega)).trans m_22r7
        have h_34 : ct_23 248 = .inl (fcI g, 20, .inl (F 8)) := by rw [q_24]; exact (fu_ne (by omega)).trans m_22r8
        refine lv_aload_n hx hb dX8_readsRumour_38 rfl (lv_at hl 0 rfl) ?_
        refine lv_aload_n hx hb dX8_readsRumour_39 rfl (lv_at hl 0 rfl) ?_
        refine fs_get E hP (k := 239) (v := .int (nI (t (a + 2) - 48))) 17 fc8 h_25 (by omega) (by decide) (wm wl_16 (i := 16) rfl) rfl dX8_readsRumour_40 ?_
        refine lv_if_lt (tgt := 53) hx hb dX8_readsRumour_43 (by decide) (fun c_43 => ?_) (fun c_43 => ?_)
        · exact absurd c_43 (by rw [fz_ltN (by omega)]; omega)
        refine lv_aload_n hx hb dX8_readsRumour_46 rfl (lv_at hl 0 rfl) ?_
        have MB_35 : MA g ct_23 (mkz (z 0) (z 1) (z 2) (z 3) (z 4) (nI (a + 3)) (nI (t a - 48)) y7 (nI (t (a + 2) - 48)) y9) F := ⟨h_25, h_26, h_27, h_28, h_29, h_30, h_31, h_32, h_33, h_34⟩
        refine fs_i (va_runV (As := []) (rest := [.ref (fa g 239)]) E.1 (c_X8_takeKind l g N ct_23 z F t len (a + 3) (nI (t a - 48)) y7 (nI (t (a + 2) - 48)) y9 (by omega) MB_35 hQ h128 (by omega)) (lk_RX8_187 E.1.2.2.2.2 ⟨Nat.le_of_ble_eq_true rfl, Nat.le_of_ble_eq_true rfl⟩) (fpreV E hP hS fc8 h_25 (by omega)) rfl rfl hl.1 rfl (lv_room (Nat.le_of_ble_eq_true rfl)) dX8_readsRumour_47 ⟨Nat.zero_le _, Nat.zero_le _⟩) hS (fun r_47 ct_36 H locs p_47 hP hS => ?_)
        obtain ⟨u_47, s_47⟩ := p_47
        rcases u_47 with ⟨A_47, e_47, M_47⟩ | ⟨A_47, e_47, M_47⟩
        · have m_37o : ct_36 239 = .inr (8, [.ref (fa g 240), .ref (fa g 241), .int (z 0), .ref (fa g 242), .ref (fa g 243), .ref (fa g 244), .int (z 1), .ref (fa g 245), .int (z 2), .ref (fa g 246), .ref (fa g 247), .ref (fa g 248), .int (z 3), .int (z 4), .int (nI (a + 4)), .int (nI (t a - 48)), .int y7, .int (nI (t (a + 2) - 48)), .int y9]) := (M_47).1
          have m_37r0 : ct_36 240 = .inl (fcI g, 121, .inl (F 0)) := (M_47).2.1
          have m_37r1 : ct_36 241 = .inl (fcI g, 726, .inl (F 1)) := (M_47).2.2.1
          have m_37r2 : ct_36 242 = .inl (fcI g, 242, .inl (F 2)) := (M_47).2.2.2.1
          have m_37r3 : ct_36 243 = .inl (fcI g, 2, .inl (F 3)) := (M_47).2.2.2.2.1
          have m_37r4 : ct_36 244 = .inl (fcI g, 60, .inl (F 4)) := (M_47).2.2.2.2.2.1
          have m_37r5 : ct_36 245 = .inl (fcI g, 6, .inl (F 5)) := (M_47).2.2.2.2.2.2.1
          have m_37r6 : ct_36 246 = .inl (fcI g, 36, .inl (F 6)) := (M_47).2.2.2.2.2.2.2.1
          have m_37r7 : ct_36 247 = .inl (fcI g, 20, .inl (F 7)) := (M_47).2.2.2.2.2.2.2.2.1
          have m_37r8 : ct_36 248 = .inl (fcI g, 20, .inl (F 8)) := (M_47).2.2.2.2.2.2.2.2.2
          refine fs_vi (y := (nI (kdn (t (a + 3))))) e_47 ?_
          refine lv_goto (tgt := 54) hx hb dX8_readsRumour_50 (by decide) ?_
          refine fs_put E hP hS (k := 239) 16 fc8 m_37o (by omega) (by decide) (wm wl_16 (i := 15) rfl) rfl rfl rfl rfl (Nat.le_of_ble_eq_true rfl) dX8_readsRumour_54 (fun ct_38 H locs q_39 hP hS => ?_)
          have h_40 : ct_38 239 = .inr (8, [.ref (fa g 240), .ref (fa g 241), .int (z 0), .ref (fa g 242), .ref (fa g 243), .ref (fa g 244), .int (z 1), .ref (fa g 245), .int (z 2), .ref (fa g 246), .ref (fa g 247), .ref (fa g 248), .int (z 3), .int (z 4), .int (nI (a + 4)), .int (nI (t a - 48)), .int (nI (kdn (t (a + 3)))), .int (nI (t (a + 2) - 48)), .int y9]) := by rw [q_39]; exact fu_eq _ _ _
          have h_41 : ct_38 240 = .inl (fcI g, 121, .inl (F 0)) := by rw [q_39]; exact (fu_ne (by omega)).trans m_37r0
          have h_42 : ct_38 241 = .inl (fcI g, 726, .inl (F 1)) := by rw [q_39]; exact (fu_ne (by omega)).trans m_37r1
          have h_43 : ct_38 242 = .inl (fcI g, 242, .inl (F 2)) := by rw [q_39]; exact (fu_ne (by omega)).trans m_37r2
          have h_44 : ct_38 243 = .inl (fcI g, 2, .inl (F 3)) := by rw [q_39]; exact (fu_ne (by omega)).trans m_37r3
          have h_45 : ct_38 244 = .inl (fcI g, 60, .inl (F 4)) := by rw [q_39]; exact (fu_ne (by omega)).trans m_37r4
          have h_46 : ct_38 245 = .inl (fcI g, 6, .inl (F 5)) := by rw [q_39]; exact (fu_ne (by omega)).trans m_37r5
          have h_47 : ct_38 246 = .inl (fcI g, 36, .inl (F 6)) := by rw [q_39]; exact (fu_ne (by omega)).trans m_37r6
          have h_48 : ct_38 247 = .inl (fcI g, 20, .inl (F 7)) := by rw [q_39]; exact (fu_ne (by omega)).trans m_37r7
          have h_49 : ct_38 248 = .inl (fcI g, 20, .inl (F 8)) := by rw [q_39]; exact (fu_ne (by omega)).trans m_37r8
          refine lv_aload_n hx hb dX8_readsRumour_57 rfl (lv_at hl 0 rfl) ?_
          refine lv_aload_n hx hb dX8_readsRumour_58 rfl (lv_at hl 0 rfl) ?_
          refine fs_get E hP (k := 239) (v := .int (nI (kdn (t (a + 3))))) 16 fc8 h_40 (by omega) (by decide) (wm wl_16 (i := 15) rfl) rfl dX8_readsRumour_59 ?_
          refine lv_if_lt (tgt := 91) hx hb dX8_readsRumour_62 (by decide) (fun c_62 => ?_) (fun c_62 => ?_)
          · exact absurd c_62 (by rw [fz_ltN (by omega)]; omega)
          refine lv_aload_n hx hb dX8_readsRumour_65 rfl (lv_at hl 0 rfl) ?_
          refine fs_get E hP (k := 239) (v := .int (nI (kdn (t (a + 3))))) 16 fc8 h_40 (by omega) (by decide) (wm wl_16 (i := 15) rfl) rfl dX8_readsRumour_66 ?_
          refine lv_iconst (v := (nI 4)) hx hb dX8_readsRumour_69 (by decide) ?_
          refine lv_icmp_ge (tgt := 95) hx hb dX8_readsRumour_70 (by decide) (fun c_70 => ?_) (fun c_70 => ?_)
          · rw [nI_leI (by omega) (by omega)] at c_70
            refine lv_aload_n hx hb dX8_readsRumour_95 rfl (lv_at hl 0 rfl) ?_
            refine lv_aload_n hx hb dX8_readsRumour_96 rfl (lv_at hl 0 rfl) ?_
            refine fs_get E hP (k := 239) (v := .int (nI (kdn (t (a + 3))))) 16 fc8 h_40 (by omega) (by decide) (wm wl_16 (i := 15) rfl) rfl dX8_readsRumour_97 ?_
            refine lv_iconst (v := (nI 4)) hx hb dX8_readsRumour_100 (by decide) ?_
            refine lv_icmp_ne (tgt := 109) hx hb dX8_readsRumour_101 (by decide) (fun c_101 => ?_) (fun c_101 => ?_)
            · rw [nI_eq (by omega) (by omega)] at c_101
              refine lv_iconst (v := (nI 5)) hx hb dX8_readsRumour_109 (by decide) ?_
              have MB_50 : MA g ct_38 (mkz (z 0) (z 1) (z 2) (z 3) (z 4) (nI (a + 4)) (nI (t a - 48)) (nI (kdn (t (a + 3)))) (nI (t (a + 2) - 48)) y9) F := ⟨h_40, h_41, h_42, h_43, h_44, h_45, h_46, h_47, h_48, h_49⟩
              refine fs_i (va_runV (As := [.int (nI 5)]) (rest := [.ref (fa g 239)]) E.1 (c_X8_takeDigit l g N ct_38 z F t len (a + 4) (nI (t a - 48)) (nI (kdn (t (a + 3)))) (nI (t (a + 2) - 48)) y9 (by omega) MB_50 hQ h128 (by omega) 5 (by omega)) (lk_RX8_184 E.1.2.2.2.2 ⟨Nat.le_of_ble_eq_true rfl, Nat.le_of_ble_eq_true rfl⟩) (fpreV E hP hS fc8 h_40 (by omega)) rfl rfl hl.1 rfl (lv_room (Nat.le_of_ble_eq_true rfl)) dX8_readsRumour_110 ⟨Nat.zero_le _, Nat.zero_le _⟩) hS (fun r_110 ct_51 H locs p_110 hP hS => ?_)
              obtain ⟨u_110, s_110⟩ := p_110
              rcases u_110 with ⟨A_110, e_110, M_110⟩ | ⟨A_110, e_110, M_110⟩
              · have m_52o : ct_51 239 = .inr (8, [.ref (fa g 240), .ref (fa g 241), .int (z 0), .ref (fa g 242), .ref (fa g 243), .ref (fa g 244), .int (z 1), .ref (fa g 245), .int (z 2), .ref (fa g 246), .ref (fa g 247), .ref (fa g 248), .int (z 3), .int (z 4), .int (nI (a + 5)), .int (nI (t a - 48)), .int (nI (kdn (t (a + 3)))), .int (nI (t (a + 2) - 48)), .int y9]) := (M_110).1
                have m_52r0 : ct_51 240 = .inl (fcI g, 121, .inl (F 0)) := (M_110).2.1
                have m_52r1 : ct_51 241 = .inl (fcI g, 726, .inl (F 1)) := (M_110).2.2.1
                have m_52r2 : ct_51 242 = .inl (fcI g, 242, .inl (F 2)) := (M_110).2.2.2.1
                have m_52r3 : ct_51 243 = .inl (fcI g, 2, .inl (F 3)) := (M_110).2.2.2.2.1
                have m_52r4 : ct_51 244 = .inl (fcI g, 60, .inl (F 4)) := (M_110).2.2.2.2.2.1
                have m_52r5 : ct_51 245 = .inl (fcI g, 6, .inl (F 5)) := (M_110).2.2.2.2.2.2.1
                have m_52r6 : ct_51 246 = .inl (fcI g, 36, .inl (F 6)) := (M_110).2.2.2.2.2.2.2.1
                have m_52r7 : ct_51 247 = .inl (fcI g, 20, .inl (F 7)) := (M_110).2.2.2.2.2.2.2.2.1
                have m_52r8 : ct_51 248 = .inl (fcI g, 20, .inl (F 8)) := (M_110).2.2.2.2.2.2.2.2.2
                refine fs_vi (y := (nI (t (a + 4) - 48))) e_110 ?_
                have hb_110 := h128 (a + 4) A_110.1
                refine fs_put E hP hS (k := 239) 18 fc8 m_52o (by omega) (by decide) (wm wl_16 (i := 17) rfl) rfl rfl rfl rfl (Nat.le_of_ble_eq_true rfl) dX8_readsRumour_113 (fun ct_53 H locs q_54 hP hS => ?_)
                have h_55 : ct_53 239 = .inr (8, [.ref (fa g 240), .ref (fa g 241), .int (z 0), .ref (fa g 242), .ref (fa g 243), .ref (fa g 244), .int (z 1), .ref (fa g 245), .int (z 2), .ref (fa g 246), .ref (fa g 247), .ref (fa g 248), .int (z 3), .int (z 4), .int (nI (a + 5)), .int (nI (t a - 48)), .int (nI (kdn (t (a + 3)))), .int (nI (t (a + 2) - 48)), .int (nI (t (a + 4) - 48))]) := by rw [q_54]; exact fu_eq _ _ _
                have h_56 : ct_53 240 = .inl (fcI g, 121, .inl (F 0)) := by rw [q_54]; exact (fu_ne (by omega)).trans m_52r0
                have h_57 : ct_53 241 = .inl (fcI g, 726, .inl (F 1)) := by rw [q_54]; exact (fu_ne (by omega)).trans m_52r1
                have h_58 : ct_53 242 = .inl (fcI g, 242, .inl (F 2)) := by rw [q_54]; exact (fu_ne (by omega)).trans m_52r2
                have h_59 : ct_53 243 = .inl (fcI g, 2, .inl (F 3)) := by rw [q_54]; exact (fu_ne (by omega)).trans m_52r3
                have h_60 : ct_53 244 = .inl (fcI g, 60, .inl (F 4)) := by rw [q_54]; exact (fu_ne (by omega)).trans m_52r4
                have h_61 : ct_53 245 = .inl (fcI g, 6, .inl (F 5)) := by rw [q_54]; exact (fu_ne (by omega)).trans m_52r5
                have h_62 : ct_53 246 = .inl (fcI g, 36, .inl (F 6)) := by rw [q_54]; exact (fu_ne (by omega)).trans m_52r6
                have h_63 : ct_53 247 = .inl (fcI g, 20, .inl (F 7)) := by rw [q_54]; exact (fu_ne (by omega)).trans m_52r7
                have h_64 : ct_53 248 = .inl (fcI g, 20, .inl (F 8)) := by rw [q_54]; exact (fu_ne (by omega)).trans m_52r8
                refine lv_aload_n hx hb dX8_readsRumour_116 rfl (lv_at hl 0 rfl) ?_
                refine fs_get E hP (k := 239) (v := .int (nI (t (a + 4) - 48))) 18 fc8 h_55 (by omega) (by decide) (wm wl_16 (i := 17) rfl) rfl dX8_readsRumour_117 ?_
                refine lv_if_lt (tgt := 127) hx hb dX8_readsRumour_120 (by decide) (fun c_120 => ?_) (fun c_120 => ?_)
                · exact absurd c_120 (by rw [fz_ltN (by omega)]; omega)
                refine lv_iconst (v := (nI 1)) hx hb dX8_readsRumour_123 (by decide) ?_
                refine lv_goto (tgt := 128) hx hb dX8_readsRumour_124 (by decide) ?_
                have MB_65 : MA g ct_53 (mkz (z 0) (z 1) (z 2) (z 3) (z 4) (nI (a + 5)) (nI (t a - 48)) (nI (kdn (t (a + 3)))) (nI (t (a + 2) - 48)) (nI (t (a + 4) - 48))) F := ⟨h_55, h_56, h_57, h_58, h_59, h_60, h_61, h_62, h_63, h_64⟩
                refine fs_zret E hr rfl hlk hP hS dX8_readsRumour_128 ?_
                exact ⟨Or.inl ⟨rd5 h6 A_3 A_20 A_28 A_47 (⟨A_110.1, (cb_5 c_101).mpr ⟨A_110.2, Or.inl (by omega)⟩⟩), rfl, MB_65⟩, (show fSame 239 249 _ _ from (fSame.ap (fSame.tr2 (fSame.ap (fSame.tr2 (fSame.ap (fSame.tr2 (fSame.tr2 (fSame.ap (fSame.tr2 fSame.rf s_3 (by omega) (by omega)) q_6 (by omega) (by omega)) s_20 (by omega) (by omega)) s_28 (by omega) (by omega)) q_24 (by omega) (by omega)) s_47 (by omega) (by omega)) q_39 (by omega) (by omega)) s_110 (by omega) (by omega)) q_54 (by omega) (by omega)))⟩
              · have m_66o : ct_51 239 = .inr (8, [.ref (fa g 240), .ref (fa g 241), .int (z 0), .ref (fa g 242), .ref (fa g 243), .ref (fa g 244), .int (z 1), .ref (fa g 245), .int (z 2), .ref (fa g 246), .ref (fa g 247), .ref (fa g 248), .int (z 3), .int (z 4), .int (nI (a + 4)), .int (nI (t a - 48)), .int (nI (kdn (t (a + 3)))), .int (nI (t (a + 2) - 48)), .int y9]) := (M_110).1
                have m_66r0 : ct_51 240 = .inl (fcI g, 121, .inl (F 0)) := (M_110).2.1
                have m_66r1 : ct_51 241 = .inl (fcI g, 726, .inl (F 1)) := (M_110).2.2.1
                have m_66r2 : ct_51 242 = .inl (fcI g, 242, .inl (F 2)) := (M_110).2.2.2.1
                have m_66r3 : ct_51 243 = .inl (fcI g, 2, .inl (F 3)) := (M_110).2.2.2.2.1
                have m_66r4 : ct_51 244 = .inl (fcI g, 60, .inl (F 4)) := (M_110).2.2.2.2.2.1
                have m_66r5 : ct_51 245 = .inl (fcI g, 6, .inl (F 5)) := (M_110).2.2.2.2.2.2.1
                have m_66r6 : ct_51 246 = .inl (fcI g, 36, .inl (F 6)) := (M_110).2.2.2.2.2.2.2.1
                have m_66r7 : ct_51 247 = .inl (fcI g, 20, .inl (F 7)) := (M_110).2.2.2.2.2.2.2.2.1
                have m_66r8 : ct_51 248 = .inl (fcI g, 20, .inl (F 8)) := (M_110).2.2.2.2.2.2.2.2.2
                refine fs_vi (y := (-1)) e_110 ?_
                refine fs_put E hP hS (k := 239) 18 fc8 m_66o (by omega) (by decide) (wm wl_16 (i := 17) rfl) rfl rfl rfl rfl (Nat.le_of_ble_eq_true rfl) dX8_readsRumour_113 (fun ct_67 H locs q_68 hP hS => ?_)
                have h_69 : ct_67 239 = .inr (8, [.ref (fa g 240), .ref (fa g 241), .int (z 0), .ref (fa g 242), .ref (fa g 243), .ref (fa g 244), .int (z 1), .ref (fa g 245), .int (z 2), .ref (fa g 246), .ref (fa g 247), .ref (fa g 248), .int (z 3), .int (z 4), .int (nI (a + 4)), .int (nI (t a - 48)), .int (nI (kdn (t (a + 3)))), .int (nI (t (a + 2) - 48)), .int (-1)]) := by rw [q_68]; exact fu_eq _ _ _
                have h_70 : ct_67 240 = .inl (fcI g, 121, .inl (F 0)) := by rw [q_68]; exact (fu_ne (by omega)).trans m_66r0
                have h_71 : ct_67 241 = .inl (fcI g, 726, .inl (F 1)) := by rw [q_68]; exact (fu_ne (by omega)).trans m_66r1
                have h_72 : ct_67 242 = .inl (fcI g, 242, .inl (F 2)) := by rw [q_68]; exact (fu_ne (by omega)).trans m_66r2
                have h_73 : ct_67 243 = .inl (fcI g, 2, .inl (F 3)) := by rw [q_68]; exact (fu_ne (by omega)).trans m_66r3
                have h_74 : ct_67 244 = .inl (fcI g, 60, .inl (F 4)) := by rw [q_68]; exact (fu_ne (by omega)).trans m_66r4
                have h_75 : ct_67 245 = .inl (fcI g, 6, .inl (F 5)) := by rw [q_68]; exact (fu_ne (by omega)).trans m_66r5
                have h_76 : ct_67 246 = .inl (fcI g, 36, .inl (F 6)) := by rw [q_68]; exact (fu_ne (by omega)).trans m_66r6
                have h_77 : ct_67 247 = .inl (fcI g, 20, .inl (F 7)) := by rw [q_68]; exact (fu_ne (by omega)).trans m_66r7
                have h_78 : ct_67 248 = .inl (fcI g, 20, .inl (F 8)) := by rw [q_68]; exact (fu_ne (by omega)).trans m_66r8
                refine lv_aload_n hx hb dX8_readsRumour_116 rfl (lv_at hl 0 rfl) ?_
                refine fs_get E hP (k := 239) (v := .int (-1)) 18 fc8 h_69 (by omega) (by decide) (wm wl_16 (i := 17) rfl) rfl dX8_readsRumour_117 ?_
                refine lv_if_lt (tgt := 127) hx hb dX8_readsRumour_120 (by decide) (fun c_120 => ?_) (fun c_120 => ?_)
                rotate_left
                · exact absurd c_120 (by decide)
                refine lv_iconst (v := (nI 0)) hx hb dX8_readsRumour_127 (by decide) ?_
                have MB_79 : MA g ct_67 (mkz (z 0) (z 1) (z 2) (z 3) (z 4) (nI (a + 4)) (nI (t a - 48)) (nI (kdn (t (a + 3)))) (nI (t (a + 2) - 48)) (-1)) F := ⟨h_69, h_70, h_71, h_72, h_73, h_74, h_75, h_76, h_77, h_78⟩
                refine fs_zret E hr rfl hlk hP hS dX8_readsRumour_128 ?_
                exact ⟨Or.inr ⟨_, _, _, _, _, rd4 h6 A_3 A_20 A_28 A_47 (fun z => A_110 ⟨z.1, ((cb_5 c_101).mp z.2).1⟩), rfl, MB_79⟩, (show fSame 239 249 _ _ from (fSame.ap (fSame.tr2 (fSame.ap (fSame.tr2 (fSame.ap (fSame.tr2 (fSame.tr2 (fSame.ap (fSame.tr2 fSame.rf s_3 (by omega) (by omega)) q_6 (by omega) (by omega)) s_20 (by omega) (by omega)) s_28 (by omega) (by omega)) q_24 (by omega) (by omega)) s_47 (by omega) (by omega)) q_39 (by omega) (by omega)) s_110 (by omega) (by omega)) q_68 (by omega) (by omega)))⟩
            · rw [nI_eq (by omega) (by omega)] at c_101
              refine lv_bipush (v := (nI 6)) hx hb dX8_readsRumour_104 (by decide) ?_
              refine lv_goto (tgt := 110) hx hb dX8_readsRumour_106 (by decide) ?_
              have MB_80 : MA g ct_38 (mkz (z 0) (z 1) (z 2) (z 3) (z 4) (nI (a + 4)) (nI (t a - 48)) (nI (kdn (t (a + 3)))) (nI (t (a + 2) - 48)) y9) F := ⟨h_40, h_41, h_42, h_43, h_44, h_45, h_46, h_47, h_48, h_49⟩
              refine fs_i (va_runV (As := [.int (nI 6)]) (rest := [.ref (fa g 239)]) E.1 (c_X8_takeDigit l g N ct_38 z F t len (a + 4) (nI (t a - 48)) (nI (kdn (t (a + 3)))) (nI (t (a + 2) - 48)) y9 (by omega) MB_80 hQ h128 (by omega) 6 (by omega)) (lk_RX8_184 E.1.2.2.2.2 ⟨Nat.le_of_ble_eq_true rfl, Nat.le_of_ble_eq_true rfl⟩) (fpreV E hP hS fc8 h_40 (by omega)) rfl rfl hl.1 rfl (lv_room (Nat.le_of_ble_eq_true rfl)) dX8_readsRumour_110 ⟨Nat.zero_le _, Nat.zero_le _⟩) hS (fun r_110 ct_81 H locs p_110 hP hS => ?_)
              obtain ⟨u_110, s_110⟩ := p_110
              rcases u_110 with ⟨A_110, e_110, M_110⟩ | ⟨A_110, e_110, M_110⟩
              · have m_82o : ct_81 239 = .inr (8, [.ref (fa g 240), .ref (fa g 241), .int (z 0), .ref (fa g 242), .ref (fa g 243), .ref (fa g 244), .int (z 1), .ref (fa g 245), .int (z 2), .ref (fa g 246), .ref (fa g 247), .ref (fa g 248), .int (z 3), .int (z 4), .int (nI (a + 5)), .int (nI (t a - 48)), .int (nI (kdn (t (a + 3)))), .int (nI (t (a + 2) - 48)), .int y9]) := (M_110).1
                have m_82r0 : ct_81 240 = .inl (fcI g, 121, .inl (F 0)) := (M_110).2.1
                have m_82r1 : ct_81 241 = .inl (fcI g, 726, .inl (F 1)) := (M_110).2.2.1
                have m_82r2 : ct_81 242 = .inl (fcI g, 242, .inl (F 2)) := (M_110).2.2.2.1
                have m_82r3 : ct_81 243 = .inl (fcI g, 2, .inl (F 3)) := (M_110).2.2.2.2.1
                have m_82r4 : ct_81 244 = .inl (fcI g, 60, .inl (F 4)) := (M_110).2.2.2.2.2.1
                have m_82r5 : ct_81 245 = .inl (fcI g, 6, .inl (F 5)) := (M_110).2.2.2.2.2.2.1
                have m_82r6 : ct_81 246 = .inl (fcI g, 36, .inl (F 6)) := (M_110).2.2.2.2.2.2.2.1
                have m_82r7 : ct_81 247 = .inl (fcI g, 20, .inl (F 7)) := (M_110).2.2.2.2.2.2.2.2.1
                have m_82r8 : ct_81 248 = .inl (fcI g, 20, .inl (F 8)) := (M_110).2.2.2.2.2.2.2.2.2
                refine fs_vi (y := (nI (t (a + 4) - 48))) e_110 ?_
                have hb_110 := h128 (a + 4) A_110.1
                refine fs_put E hP hS (k := 239) 18 fc8 m_82o (by omega) (by decide) (wm wl_16 (i := 17) rfl) rfl rfl rfl rfl (Nat.le_of_ble_eq_true rfl) dX8_readsRumour_113 (fun ct_83 H locs q_84 hP hS => ?_)
                have h_85 : ct_83 239 = .inr (8, [.ref (fa g 240), .ref (fa g 241), .int (z 0), .ref (fa g 242), .ref (fa g 243), .ref (fa g 244), .int (z 1), .ref (fa g 245), .int (z 2), .ref (fa g 246), .ref (fa g 247), .ref (fa g 248), .int (z 3), .int (z 4), .int (nI (a + 5)), .int (nI (t a - 48)), .int (nI (kdn (t (a + 3)))), .int (nI (t (a + 2) - 48)), .int (nI (t (a + 4) - 48))]) := by rw [q_84]; exact fu_eq _ _ _
                have h_86 : ct_83 240 = .inl (fcI g, 121, .inl (F 0)) := by rw [q_84]; exact (fu_ne (by omega)).trans m_82r0
                have h_87 : ct_83 241 = .inl (fcI g, 726, .inl (F 1)) := by rw [q_84]; exact (fu_ne (by omega)).trans m_82r1
                have h_88 : ct_83 242 = .inl (fcI g, 242, .inl (F 2)) := by rw [q_84]; exact (fu_ne (by omega)).trans m_82r2
                have h_89 : ct_83 243 = .inl (fcI g, 2, .inl (F 3)) := by rw [q_84]; exact (fu_ne (by omega)).trans m_82r3
                have h_90 : ct_83 244 = .inl (fcI g, 60, .inl (F 4)) := by rw [q_84]; exact (fu_ne (by omega)).trans m_82r4
                have h_91 : ct_83 245 = .inl (fcI g, 6, .inl (F 5)) := by rw [q_84]; exact (fu_ne (by omega)).trans m_82r5
                have h_92 : ct_83 246 = .inl (fcI g, 36, .inl (F 6)) := by rw [q_84]; exact (fu_ne (by omega)).trans m_82r6
                have h_93 : ct_83 247 = .inl (fcI g, 20, .inl (F 7)) := by rw [q_84]; exact (fu_ne (by omega)).trans m_82r7
                have h_94 : ct_83 248 = .inl (fcI g, 20, .inl (F 8)) := by rw [q_84]; exact (fu_ne (by omega)).trans m_82r8
                refine lv_aload_n hx hb dX8_readsRumour_116 rfl (lv_at hl 0 rfl) ?_
                refine fs_get E hP (k := 239) (v := .int (nI (t (a + 4) - 48))) 18 fc8 h_85 (by omega) (by decide) (wm wl_16 (i := 17) rfl) rfl dX8_readsRumour_117 ?_
                refine lv_if_lt (tgt := 127) hx hb dX8_readsRumour_120 (by decide) (fun c_120 => ?_) (fun c_120 => ?_)
                · exact absurd c_120 (by rw [fz_ltN (by omega)]; omega)
                refine lv_iconst (v := (nI 1)) hx hb dX8_readsRumour_123 (by decide) ?_
                refine lv_goto (tgt := 128) hx hb dX8_readsRumour_124 (by decide) ?_
                have MB_95 : MA g ct_83 (mkz (z 0) (z 1) (z 2) (z 3) (z 4) (nI (a + 5)) (nI (t a - 48)) (nI (kdn (t (a + 3)))) (nI (t (a + 2) - 48)) (nI (t (a + 4) - 48))) F := ⟨h_85, h_86, h_87, h_88, h_89, h_90, h_91, h_92, h_93, h_94⟩
                refine fs_zret E hr rfl hlk hP hS dX8_readsRumour_128 ?_
                exact ⟨Or.inl ⟨rd5 h6 A_3 A_20 A_28 A_47 (⟨A_110.1, (cb_4 c_101).mpr A_110.2⟩), rfl, MB_95⟩, (show fSame 239 249 _ _ from (fSame.ap (fSame.tr2 (fSame.ap (fSame.tr2 (fSame.ap (fSame.tr2 (fSame.tr2 (fSame.ap (fSame.tr2 fSame.rf s_3 (by omega) (by omega)) q_6 (by omega) (by omega)) s_20 (by omega) (by omega)) s_28 (by omega) (by omega)) q_24 (by omega) (by omega)) s_47 (by omega) (by omega)) q_39 (by omega) (by omega)) s_110 (by omega) (by omega)) q_84 (by omega) (by omega)))⟩
              · have m_96o : ct_81 239 = .inr (8, [.ref (fa g 240), .ref (fa g 241), .int (z 0), .ref (fa g 242), .ref (fa g 243), .ref (fa g 244), .int (z 1), .ref (fa g 245), .int (z 2), .ref (fa g 246), .ref (fa g 247), .ref (fa g 248), .int (z 3), .int (z 4), .int (nI (a + 4)), .int (nI (t a - 48)), .int (nI (kdn (t (a + 3)))), .int (nI (t (a + 2) - 48)), .int y9]) := (M_110).1
                have m_96r0 : ct_81 240 = .inl (fcI g, 121, .inl (F 0)) := (M_110).2.1
                have m_96r1 : ct_81 241 = .inl (fcI g, 726, .inl (F 1)) := (M_110).2.2.1
                have m_96r2 : ct_81 242 = .inl (fcI g, 242, .inl (F 2)) := (M_110).2.2.2.1
                have m_96r3 : ct_81 243 = .inl (fcI g, 2, .inl (F 3)) := (M_110).2.2.2.2.1
                have m_96r4 : ct_81 244 = .inl (fcI g, 60, .inl (F 4)) := (M_110).2.2.2.2.2.1
                have m_96r5 : ct_81 245 = .inl (fcI g, 6, .inl (F 5)) := (M_110).2.2.2.2.2.2.1
                have m_96r6 : ct_81 246 = .inl (fcI g, 36, .inl (F 6)) := (M_110).2.2.2.2.2.2.2.1
                have m_96r7 : ct_81 247 = .inl (fcI g, 20, .inl (F 7)) := (M_110).2.2.2.2.2.2.2.2.1
                have m_96r8 : ct_81 248 = .inl (fcI g, 20, .inl (F 8)) := (M_110).2.2.2.2.2.2.2.2.2
                refine fs_vi (y := (-1)) e_110 ?_
                refine fs_put E hP hS (k := 239) 18 fc8 m_96o (by omega) (by decide) (wm wl_16 (i := 17) rfl) rfl rfl rfl rfl (Nat.le_of_ble_eq_true rfl) dX8_readsRumour_113 (fun ct_97 H locs q_98 hP hS => ?_)
                have h_99 : ct_97 239 = .inr (8, [.ref (fa g 240), .ref (fa g 241), .int (z 0), .ref (fa g 242), .ref (fa g 243), .ref (fa g 244), .int (z 1), .ref (fa g 245), .int (z 2), .ref (fa g 246), .ref (fa g 247), .ref (fa g 248), .int (z 3), .int (z 4), .int (nI (a + 4)), .int (nI (t a - 48)), .int (nI (kdn (t (a + 3)))), .int (nI (t (a + 2) - 48)), .int (-1)]) := by rw [q_98]; exact fu_eq _ _ _
                have h_100 : ct_97 240 = .inl (fcI g, 121, .inl (F 0)) := by rw [q_98]; exact (fu_ne (by omega)).trans m_96r0
                have h_101 : ct_97 241 = .inl (fcI g, 726, .inl (F 1)) := by rw [q_98]; exact (fu_ne (by omega)).trans m_96r1
                have h_102 : ct_97 242 = .inl (fcI g, 242, .inl (F 2)) := by rw [q_98]; exact (fu_ne (by omega)).trans m_96r2
                have h_103 : ct_97 243 = .inl (fcI g, 2, .inl (F 3)) := by rw [q_98]; exact (fu_ne (by omega)).trans m_96r3
                have h_104 : ct_97 244 = .inl (fcI g, 60, .inl (F 4)) := by rw [q_98]; exact (fu_ne (by omega)).trans m_96r4
                have h_105 : ct_97 245 = .inl (fcI g, 6, .inl (F 5)) := by rw [q_98]; exact (fu_ne (by omega)).trans m_96r5
                have h_106 : ct_97 246 = .inl (fcI g, 36, .inl (F 6)) := by rw [q_98]; exact (fu_ne (by omega)).trans m_96r6
                have h_107 : ct_97 247 = .inl (fcI g, 20, .inl (F 7)) := by rw [q_98]; exact (fu_ne (by omega)).trans m_96r7
                have h_108 : ct_97 248 = .inl (fcI g, 20, .inl (F 8)) := by rw [q_98]; exact (fu_ne (by omega)).trans m_96r8
                refine lv_aload_n hx hb dX8_readsRumour_116 rfl (lv_at hl 0 rfl) ?_
                refine fs_get E hP (k := 239) (v := .int (-1)) 18 fc8 h_99 (by omega) (by decide) (wm wl_16 (i := 17) rfl) rfl dX8_readsRumour_117 ?_
                refine lv_if_lt (tgt := 127) hx hb dX8_readsRumour_120 (by decide) (fun c_120 => ?_) (fun c_120 => ?_)
                rotate_left
                · exact absurd c_120 (by decide)
                refine lv_iconst (v := (nI 0)) hx hb dX8_readsRumour_127 (by decide) ?_
                have MB_109 : MA g ct_97 (mkz (z 0) (z 1) (z 2) (z 3) (z 4) (nI (a + 4)) (nI (t a - 48)) (nI (kdn (t (a + 3)))) (nI (t (a + 2) - 48)) (-1)) F := ⟨h_99, h_100, h_101, h_102, h_103, h_104, h_105, h_106, h_107, h_108⟩
                refine fs_zret E hr rfl hlk hP hS dX8_readsRumour_128 ?_
                exact ⟨Or.inr ⟨_, _, _, _, _, rd4 h6 A_3 A_20 A_28 A_47 (fun z => A_110 ⟨z.1, (cb_4 c_101).mp z.2⟩), rfl, MB_109⟩, (show fSame 239 249 _ _ from (fSame.ap (fSame.tr2 (fSame.ap (fSame.tr2 (fSame.ap (fSame.tr2 (fSame.tr2 (fSame.ap (fSame.tr2 fSame.rf s_3 (by omega) (by omega)) q_6 (by omega) (by omega)) s_20 (by omega) (by omega)) s_28 (by omega) (by omega)) q_24 (by omega) (by omega)) s_47 (by omega) (by omega)) q_39 (by omega) (by omega)) s_110 (by omega) (by omega)) q_98 (by omega) (by omega)))⟩
          · rw [nI_leI (by omega) (by omega)] at c_70
            refine lv_aload_n hx hb dX8_readsRumour_73 rfl (lv_at hl 0 rfl) ?_
            refine lv_aload_n hx hb dX8_readsRumour_74 rfl (lv_at hl 0 rfl) ?_
            refine fs_get E hP (k := 239) (v := .int (nI (a + 4))) 14 fc8 h_40 (by omega) (by decide) (wm wl_16 (i := 12) rfl) rfl dX8_readsRumour_75 ?_
            have MB_110 : MA g ct_38 (mkz (z 0) (z 1) (z 2) (z 3) (z 4) (nI (a + 4)) (nI (t a - 48)) (nI (kdn (t (a + 3)))) (nI (t (a + 2) - 48)) y9) F := ⟨h_40, h_41, h_42, h_43, h_44, h_45, h_46, h_47, h_48, h_49⟩
            refine fs_pi (va_runV (As := [.int (nI (a + 4))]) (rest := [.ref (fa g 239)]) E.1 (c_X8_character l g N ct_38 (mkz (z 0) (z 1) (z 2) (z 3) (z 4) (nI (a + 4)) (nI (t a - 48)) (nI (kdn (t (a + 3)))) (nI (t (a + 2) - 48)) y9) F t len (by omega) MB_110 ⟨hQ.1, hQ.2⟩ (a + 4) (by omega)) (lk_RX8_181 E.1.2.2.2.2 ⟨Nat.le_of_ble_eq_true rfl, Nat.le_of_ble_eq_true rfl⟩) (fpreV E hP hS fc8 h_40 (by omega)) rfl rfl hl.1 rfl (lv_room (Nat.le_of_ble_eq_true rfl)) dX8_readsRumour_78 ⟨Nat.zero_le _, Nat.zero_le _⟩) hS (fun r_78 locs p_78 hS => ?_)
            refine fs_vi (y := (chF t len (a + 4))) p_78 ?_
            refine lv_bipush (v := (nI 48)) hx hb dX8_readsRumour_81 (by decide) ?_
            refine lv_isub hx hb dX8_readsRumour_83 ?_
            refine lv_aload_n hx hb dX8_readsRumour_84 rfl (lv_at hl 0 rfl) ?_
            refine fs_get E hP (k := 239) (v := .int (nI (t (a + 2) - 48))) 17 fc8 h_40 (by omega) (by decide) (wm wl_16 (i := 16) rfl) rfl dX8_readsRumour_85 ?_
            refine lv_icmp_ne (tgt := 95) hx hb dX8_readsRumour_88 (by decide) (fun c_88 => ?_) (fun c_88 => ?_)
            · refine lv_aload_n hx hb dX8_readsRumour_95 rfl (lv_at hl 0 rfl) ?_
              refine lv_aload_n hx hb dX8_readsRumour_96 rfl (lv_at hl 0 rfl) ?_
              refine fs_get E hP (k := 239) (v := .int (nI (kdn (t (a + 3))))) 16 fc8 h_40 (by omega) (by decide) (wm wl_16 (i := 15) rfl) rfl dX8_readsRumour_97 ?_
              refine lv_iconst (v := (nI 4)) hx hb dX8_readsRumour_100 (by decide) ?_
              refine lv_icmp_ne (tgt := 109) hx hb dX8_readsRumour_101 (by decide) (fun c_101 => ?_) (fun c_101 => ?_)
              · rw [nI_eq (by omega) (by omega)] at c_101
                refine lv_iconst (v := (nI 5)) hx hb dX8_readsRumour_109 (by decide) ?_
                have MB_111 : MA g ct_38 (mkz (z 0) (z 1) (z 2) (z 3) (z 4) (nI (a + 4)) (nI (t a - 48)) (nI (kdn (t (a + 3)))) (nI (t (a + 2) - 48)) y9) F := ⟨h_40, h_41, h_42, h_43, h_44, h_45, h_46, h_47, h_48, h_49⟩
                refine fs_i (va_runV (As := [.int (nI 5)]) (rest := [.ref (fa g 239)]) E.1 (c_X8_takeDigit l g N ct_38 z F t len (a + 4) (nI (t a - 48)) (nI (kdn (t (a + 3)))) (nI (t (a + 2) - 48)) y9 (by omega) MB_111 hQ h128 (by omega) 5 (by omega)) (lk_RX8_184 E.1.2.2.2.2 ⟨Nat.le_of_ble_eq_true rfl, Nat.le_of_ble_eq_true rfl⟩) (fpreV E hP hS fc8 h_40 (by omega)) rfl rfl hl.1 rfl (lv_room (Nat.le_of_ble_eq_true rfl)) dX8_readsRumour_110 ⟨Nat.zero_le _, Nat.zero_le _⟩) hS (fun r_110 ct_112 H locs p_110 hP hS => ?_)
                obtain ⟨u_110, s_110⟩ := p_110
                rcases u_110 with ⟨A_110, e_110, M_110⟩ | ⟨A_110, e_110, M_110⟩
                · have m_113o : ct_112 239 = .inr (8, [.ref (fa g 240), .ref (fa g 241), .int (z 0), .ref (fa g 242), .ref (fa g 243), .ref (fa g 244), .int (z 1), .ref (fa g 245), .int (z 2), .ref (fa g 246), .ref (fa g 247), .ref (fa g 248), .int (z 3), .int (z 4), .int (nI (a + 5)), .int (nI (t a - 48)), .int (nI (kdn (t (a + 3)))), .int (nI (t (a + 2) - 48)), .int y9]) := (M_110).1
                  have m_113r0 : ct_112 240 = .inl (fcI g, 121, .inl (F 0)) := (M_110).2.1
                  have m_113r1 : ct_112 241 = .inl (fcI g, 726, .inl (F 1)) := (M_110).2.2.1
                  have m_113r2 : ct_112 242 = .inl (fcI g, 242, .inl (F 2)) := (M_110).2.2.2.1
                  have m_113r3 : ct_112 243 = .inl (fcI g, 2, .inl (F 3)) := (M_110).2.2.2.2.1
                  have m_113r4 : ct_112 244 = .inl (fcI g, 60, .inl (F 4)) := (M_110).2.2.2.2.2.1
                  have m_113r5 : ct_112 245 = .inl (fcI g, 6, .inl (F 5)) := (M_110).2.2.2.2.2.2.1
                  have m_113r6 : ct_112 246 = .inl (fcI g, 36, .inl (F 6)) := (M_110).2.2.2.2.2.2.2.1
                  have m_113r7 : ct_112 247 = .inl (fcI g, 20, .inl (F 7)) := (M_110).2.2.2.2.2.2.2.2.1
                  have m_113r8 : ct_112 248 = .inl (fcI g, 20, .inl (F 8)) := (M_110).2.2.2.2.2.2.2.2.2
                  refine fs_vi (y := (nI (t (a + 4) - 48))) e_110 ?_
                  have hb_110 := h128 (a + 4) A_110.1
                  refine fs_put E hP hS (k := 239) 18 fc8 m_113o (by omega) (by decide) (wm wl_16 (i := 17) rfl) rfl rfl rfl rfl (Nat.le_of_ble_eq_true rfl) dX8_readsRumour_113 (fun ct_114 H locs q_115 hP hS => ?_)
                  have h_116 : ct_114 239 = .inr (8, [.ref (fa g 240), .ref (fa g 241), .int (z 0), .ref (fa g 242), .ref (fa g 243), .ref (fa g 244), .int (z 1), .ref (fa g 245), .int (z 2), .ref (fa g 246), .ref (fa g 247), .ref (fa g 248), .int (z 3), .int (z 4), .int (nI (a + 5)), .int (nI (t a - 48)), .int (nI (kdn (t (a + 3)))), .int (nI (t (a + 2) - 48)), .int (nI (t (a + 4) - 48))]) := by rw [q_115]; exact fu_eq _ _ _
                  have h_117 : ct_114 240 = .inl (fcI g, 121, .inl (F 0)) := by rw [q_115]; exact (fu_ne (by omega)).trans m_113r0
                  have h_118 : ct_114 241 = .inl (fcI g, 726, .inl (F 1)) := by rw [q_115]; exact (fu_ne (by omega)).trans m_113r1
                  have h_119 : ct_114 242 = .inl (fcI g, 242, .inl (F 2)) := by rw [q_115]; exact (fu_ne (by omega)).trans m_113r2
                  have h_120 : ct_114 243 = .inl (fcI g, 2, .inl (F 3)) := by rw [q_115]; exact (fu_ne (by omega)).trans m_113r3
                  have h_121 : ct_114 244 = .inl (fcI g, 60, .inl (F 4)) := by rw [q_115]; exact (fu_ne (by omega)).trans m_113r4
                  have h_122 : ct_114 245 = .inl (fcI g, 6, .inl (F 5)) := by rw [q_115]; exact (fu_ne (by omega)).trans m_113r5
                  have h_123 : ct_114 246 = .inl (fcI g, 36, .inl (F 6)) := by rw [q_115]; exact (fu_ne (by omega)).trans m_113r6
                  have h_124 : ct_114 247 = .inl (fcI g, 20, .inl (F 7)) := by rw [q_115]; exact (fu_ne (by omega)).trans m_113r7
                  have h_125 : ct_114 248 = .inl (fcI g, 20, .inl (F 8)) := by rw [q_115]; exact (fu_ne (by omega)).trans m_113r8
                  refine lv_aload_n hx hb dX8_readsRumour_116 rfl (lv_at hl 0 rfl) ?_
                  refine fs_get E hP (k := 239) (v := .int (nI (t (a + 4) - 48))) 18 fc8 h_116 (by omega) (by decide) (wm wl_16 (i := 17) rfl) rfl dX8_readsRumour_117 ?_
                  refine lv_if_lt (tgt := 127) hx hb dX8_readsRumour_120 (by decide) (fun c_120 => ?_) (fun c_120 => ?_)
                  · exact absurd c_120 (by rw [fz_ltN (by omega)]; omega)
                  refine lv_iconst (v := (nI 1)) hx hb dX8_readsRumour_123 (by decide) ?_
                  refine lv_goto (tgt := 128) hx hb dX8_readsRumour_124 (by decide) ?_
                  have MB_126 : MA g ct_114 (mkz (z 0) (z 1) (z 2) (z 3) (z 4) (nI (a + 5)) (nI (t a - 48)) (nI (kdn (t (a + 3)))) (nI (t (a + 2) - 48)) (nI (t (a + 4) - 48))) F := ⟨h_116, h_117, h_118, h_119, h_120, h_121, h_122, h_123, h_124, h_125⟩
                  refine fs_zret E hr rfl hlk hP hS dX8_readsRumour_128 ?_
                  exact ⟨Or.inl ⟨rd5 h6 A_3 A_20 A_28 A_47 (ry_ne h128 A_28 (by omega) c_88 A_110), rfl, MB_126⟩, (show fSame 239 249 _ _ from (fSame.ap (fSame.tr2 (fSame.ap (fSame.tr2 (fSame.ap (fSame.tr2 (fSame.tr2 (fSame.ap (fSame.tr2 fSame.rf s_3 (by omega) (by omega)) q_6 (by omega) (by omega)) s_20 (by omega) (by omega)) s_28 (by omega) (by omega)) q_24 (by omega) (by omega)) s_47 (by omega) (by omega)) q_39 (by omega) (by omega)) s_110 (by omega) (by omega)) q_115 (by omega) (by omega)))⟩
                · have m_127o : ct_112 239 = .inr (8, [.ref (fa g 240), .ref (fa g 241), .int (z 0), .ref (fa g 242), .ref (fa g 243), .ref (fa g 244), .int (z 1), .ref (fa g 245), .int (z 2), .ref (fa g 246), .ref (fa g 247), .ref (fa g 248), .int (z 3), .int (z 4), .int (nI (a + 4)), .int (nI (t a - 48)), .int (nI (kdn (t (a + 3)))), .int (nI (t (a + 2) - 48)), .int y9]) := (M_110).1
                  have m_127r0 : ct_112 240 = .inl (fcI g, 121, .inl (F 0)) := (M_110).2.1
                  have m_127r1 : ct_112 241 = .inl (fcI g, 726, .inl (F 1)) := (M_110).2.2.1
                  have m_127r2 : ct_112 242 = .inl (fcI g, 242, .inl (F 2)) := (M_110).2.2.2.1
                  have m_127r3 : ct_112 243 = .inl (fcI g, 2, .inl (F 3)) := (M_110).2.2.2.2.1
                  have m_127r4 : ct_112 244 = .inl (fcI g, 60, .inl (F 4)) := (M_110).2.2.2.2.2.1
                  have m_127r5 : ct_112 245 = .inl (fcI g, 6, .inl (F 5)) := (M_110).2.2.2.2.2.2.1
                  have m_127r6 : ct_112 246 = .inl (fcI g, 36, .inl (F 6)) := (M_110).2.2.2.2.2.2.2.1
                  have m_127r7 : ct_112 247 = .inl (fcI g, 20, .inl (F 7)) := (M_110).2.2.2.2.2.2.2.2.1
                  have m_127r8 : ct_112 248 = .inl (fcI g, 20, .inl (F 8)) := (M_110).2.2.2.2.2.2.2.2.2
                  refine fs_vi (y := (-1)) e_110 ?_
                  refine fs_put E hP hS (k := 239) 18 fc8 m_127o (by omega) (by decide) (wm wl_16 (i := 17) rfl) rfl rfl rfl rfl (Nat.le_of_ble_eq_true rfl) dX8_readsRumour_113 (fun ct_128 H locs q_129 hP hS => ?_)
                  have h_130 : ct_128 239 = .inr (8, [.ref (fa g 240), .ref (fa g 241), .int (z 0), .ref (fa g 242), .ref (fa g 243), .ref (fa g 244), .int (z 1), .ref (fa g 245), .int (z 2), .ref (fa g 246), .ref (fa g 247), .ref (fa g 248), .int (z 3), .int (z 4), .int (nI (a + 4)), .int (nI (t a - 48)), .int (nI (kdn (t (a + 3)))), .int (nI (t (a + 2) - 48)), .int (-1)]) := by rw [q_129]; exact fu_eq _ _ _
                  have h_131 : ct_128 240 = .inl (fcI g, 121, .inl (F 0)) := by rw [q_129]; exact (fu_ne (by omega)).trans m_127r0
                  have h_132 : ct_128 241 = .inl (fcI g, 726, .inl (F 1)) := by rw [q_129]; exact (fu_ne (by omega)).trans m_127r1
                  have h_133 : ct_128 242 = .inl (fcI g, 242, .inl (F 2)) := by rw [q_129]; exact (fu_ne (by omega)).trans m_127r2
                  have h_134 : ct_128 243 = .inl (fcI g, 2, .inl (F 3)) := by rw [q_129]; exact (fu_ne (by omega)).trans m_127r3
                  have h_135 : ct_128 244 = .inl (fcI g, 60, .inl (F 4)) := by rw [q_129]; exact (fu_ne (by omega)).trans m_127r4
                  have h_136 : ct_128 245 = .inl (fcI g, 6, .inl (F 5)) := by rw [q_129]; exact (fu_ne (by omega)).trans m_127r5
                  have h_137 : ct_128 246 = .inl (fcI g, 36, .inl (F 6)) := by rw [q_129]; exact (fu_ne (by omega)).trans m_127r6
                  have h_138 : ct_128 247 = .inl (fcI g, 20, .inl (F 7)) := by rw [q_129]; exact (fu_ne (by omega)).trans m_127r7
                  have h_139 : ct_128 248 = .inl (fcI g, 20, .inl (F 8)) := by rw [q_129]; exact (fu_ne (by omega)).trans m_127r8
                  refine lv_aload_n hx hb dX8_readsRumour_116 rfl (lv_at hl 0 rfl) ?_
                  refine fs_get E hP (k := 239) (v := .int (-1)) 18 fc8 h_130 (by omega) (by decide) (wm wl_16 (i := 17) rfl) rfl dX8_readsRumour_117 ?_
                  refine lv_if_lt (tgt := 127) hx hb dX8_readsRumour_120 (by decide) (fun c_120 => ?_) (fun c_120 => ?_)
                  rotate_left
                  · exact absurd c_120 (by decide)
                  refine lv_iconst (v := (nI 0)) hx hb dX8_readsRumour_127 (by decide) ?_
                  have MB_140 : MA g ct_128 (mkz (z 0) (z 1) (z 2) (z 3) (z 4) (nI (a + 4)) (nI (t a - 48)) (nI (kdn (t (a + 3)))) (nI (t (a + 2) - 48)) (-1)) F := ⟨h_130, h_131, h_132, h_133, h_134, h_135, h_136, h_137, h_138, h_139⟩
                  refine fs_zret E hr rfl hlk hP hS dX8_readsRumour_128 ?_
                  exact ⟨Or.inr ⟨_, _, _, _, _, rd4 h6 A_3 A_20 A_28 A_47 (fun z => A_110 ⟨z.1, ((cb_5 c_101).mp z.2).1⟩), rfl, MB_140⟩, (show fSame 239 249 _ _ from (fSame.ap (fSame.tr2 (fSame.ap (fSame.tr2 (fSame.ap (fSame.tr2 (fSame.tr2 (fSame.ap (fSame.tr2 fSame.rf s_3 (by omega) (by omega)) q_6 (by omega) (by omega)) s_20 (by omega) (by omega)) s_28 (by omega) (by omega)) q_24 (by omega) (by omega)) s_47 (by omega) (by omega)) q_39 (by omega) (by omega)) s_110 (by omega) (by omega)) q_129 (by omega) (by omega)))⟩
              · rw [nI_eq (by omega) (by omega)] at c_101
                exfalso; omega
            · refine lv_iconst (v := (-1)) hx hb dX8_readsRumour_91 (by decide) ?_
              refine lv_goto (tgt := 113) hx hb dX8_readsRumour_92 (by decide) ?_
              refine fs_put E hP hS (k := 239) 18 fc8 h_40 (by omega) (by decide) (wm wl_16 (i := 17) rfl) rfl rfl rfl rfl (Nat.le_of_ble_eq_true rfl) dX8_readsRumour_113 (fun ct_141 H locs q_142 hP hS => ?_)
              have h_143 : ct_141 239 = .inr (8, [.ref (fa g 240), .ref (fa g 241), .int (z 0), .ref (fa g 242), .ref (fa g 243), .ref (fa g 244), .int (z 1), .ref (fa g 245), .int (z 2), .ref (fa g 246), .ref (fa g 247), .ref (fa g 248), .int (z 3), .int (z 4), .int (nI (a + 4)), .int (nI (t a - 48)), .int (nI (kdn (t (a + 3)))), .int (nI (t (a + 2) - 48)), .int (-1)]) := by rw [q_142]; exact fu_eq _ _ _
              have h_144 : ct_141 240 = .inl (fcI g, 121, .inl (F 0)) := by rw [q_142]; exact (fu_ne (by omega)).trans h_41
              have h_145 : ct_141 241 = .inl (fcI g, 726, .inl (F 1)) := by rw [q_142]; exact (fu_ne (by omega)).trans h_42
              have h_146 : ct_141 242 = .inl (fcI g, 242, .inl (F 2)) := by rw [q_142]; exact (fu_ne (by omega)).trans h_43
              have h_147 : ct_141 243 = .inl (fcI g, 2, .inl (F 3)) := by rw [q_142]; exact (fu_ne (by omega)).trans h_44
              have h_148 : ct_141 244 = .inl (fcI g, 60, .inl (F 4)) := by rw [q_142]; exact (fu_ne (by omega)).trans h_45
              have h_149 : ct_141 245 = .inl (fcI g, 6, .inl (F 5)) := by rw [q_142]; exact (fu_ne (by omega)).trans h_46
              have h_150 : ct_141 246 = .inl (fcI g, 36, .inl (F 6)) := by rw [q_142]; exact (fu_ne (by omega)).trans h_47
              have h_151 : ct_141 247 = .inl (fcI g, 20, .inl (F 7)) := by rw [q_142]; exact (fu_ne (by omega)).trans h_48
              have h_152 : ct_141 248 = .inl (fcI g, 20, .inl (F 8)) := by rw [q_142]; exact (fu_ne (by omega)).trans h_49
              refine lv_aload_n hx hb dX8_readsRumour_116 rfl (lv_at hl 0 rfl) ?_
              refine fs_get E hP (k := 239) (v := .int (-1)) 18 fc8 h_143 (by omega) (by decide) (wm wl_16 (i := 17) rfl) rfl dX8_readsRumour_117 ?_
              refine lv_if_lt (tgt := 127) hx hb dX8_readsRumour_120 (by decide) (fun c_120 => ?_) (fun c_120 => ?_)
              rotate_left
              · exact absurd c_120 (by decide)
              refine lv_iconst (v := (nI 0)) hx hb dX8_readsRumour_127 (by decide) ?_
              have MB_153 : MA g ct_141 (mkz (z 0) (z 1) (z 2) (z 3) (z 4) (nI (a + 4)) (nI (t a - 48)) (nI (kdn (t (a + 3)))) (nI (t (a + 2) - 48)) (-1)) F := ⟨h_143, h_144, h_145, h_146, h_147, h_148, h_149, h_150, h_151, h_152⟩
              refine fs_zret E hr rfl hlk hP hS dX8_readsRumour_128 ?_
              exact ⟨Or.inr ⟨_, _, _, _, _, rd4 h6 A_3 A_20 A_28 A_47 (rn_eq h128 A_28 (by omega) c_88), rfl, MB_153⟩, (show fSame 239 249 _ _ from (fSame.ap (fSame.ap (fSame.tr2 (fSame.ap (fSame.tr2 (fSame.tr2 (fSame.ap (fSame.tr2 fSame.rf s_3 (by omega) (by omega)) q_6 (by omega) (by omega)) s_20 (by omega) (by omega)) s_28 (by omega) (by omega)) q_24 (by omega) (by omega)) s_47 (by omega) (by omega)) q_39 (by omega) (by omega)) q_142 (by omega) (by omega)))⟩
        · have m_154o : ct_36 239 = .inr (8, [.ref (fa g 240), .ref (fa g 241), .int (z 0), .ref (fa g 242), .ref (fa g 243), .ref (fa g 244), .int (z 1), .ref (fa g 245), .int (z 2), .ref (fa g 246), .ref (fa g 247), .ref (fa g 248), .int (z 3), .int (z 4), .int (nI (a + 3)), .int (nI (t a - 48)), .int y7, .int (nI (t (a + 2) - 48)), .int y9]) := (M_47).1
          have m_154r0 : ct_36 240 = .inl (fcI g, 121, .inl (F 0)) := (M_47).2.1
          have m_154r1 : ct_36 241 = .inl (fcI g, 726, .inl (F 1)) := (M_47).2.2.1
          have m_154r2 : ct_36 242 = .inl (fcI g, 242, .inl (F 2)) := (M_47).2.2.2.1
          have m_154r3 : ct_36 243 = .inl (fcI g, 2, .inl (F 3)) := (M_47).2.2.2.2.1
          have m_154r4 : ct_36 244 = .inl (fcI g, 60, .inl (F 4)) := (M_47).2.2.2.2.2.1
          have m_154r5 : ct_36 245 = .inl (fcI g, 6, .inl (F 5)) := (M_47).2.2.2.2.2.2.1
          have m_154r6 : ct_36 246 = .inl (fcI g, 36, .inl (F 6)) := (M_47).2.2.2.2.2.2.2.1
          have m_154r7 : ct_36 247 = .inl (fcI g, 20, .inl (F 7)) := (M_47).2.2.2.2.2.2.2.2.1
          have m_154r8 : ct_36 248 = .inl (fcI g, 20, .inl (F 8)) := (M_47).2.2.2.2.2.2.2.2.2
          refine fs_vi (y := (-1)) e_47 ?_
          refine lv_goto (tgt := 54) hx hb dX8_readsRumour_50 (by decide) ?_
          refine fs_put E hP hS (k := 239) 16 fc8 m_154o (by omega) (by decide) (wm wl_16 (i := 15) rfl) rfl rfl rfl rfl (Nat.le_of_ble_eq_true rfl) dX8_readsRumour_54 (fun ct_155 H locs q_156 hP hS => ?_)
          have h_157 : ct_155 239 = .inr (8, [.ref (fa g 240), .ref (fa g 241), .int (z 0), .ref (fa g 242), .ref (fa g 243), .ref (fa g 244), .int (z 1), .ref (fa g 245), .int (z 2), .ref (fa g 246), .ref (fa g 247), .ref (fa g 248), .int (z 3), .int (z 4), .int (nI (a + 3)), .int (nI (t a - 48)), .int (-1), .int (nI (t (a + 2) - 48)), .int y9]) := by rw [q_156]; exact fu_eq _ _ _
          have h_158 : ct_155 240 = .inl (fcI g, 121, .inl (F 0)) := by rw [q_156]; exact (fu_ne (by omega)).trans m_154r0
          have h_159 : ct_155 241 = .inl (fcI g, 726, .inl (F 1)) := by rw [q_156]; exact (fu_ne (by omega)).trans m_154r1
          have h_160 : ct_155 242 = .inl (fcI g, 242, .inl (F 2)) := by rw [q_156]; exact (fu_ne (by omega)).trans m_154r2
          have h_161 : ct_155 243 = .inl (fcI g, 2, .inl (F 3)) := by rw [q_156]; exact (fu_ne (by omega)).trans m_154r3
          have h_162 : ct_155 244 = .inl (fcI g, 60, .inl (F 4)) := by rw [q_156]; exact (fu_ne (by omega)).trans m_154r4
          have h_163 : ct_155 245 = .inl (fcI g, 6, .inl (F 5)) := by rw [q_156]; exact (fu_ne (by omega)).trans m_154r5
          have h_164 : ct_155 246 = .inl (fcI g, 36, .inl (F 6)) := by rw [q_156]; exact (fu_ne (by omega)).trans m_154r6
          have h_165 : ct_155 247 = .inl (fcI g, 20, .inl (F 7)) := by rw [q_156]; exact (fu_ne (by omega)).trans m_154r7
          have h_166 : ct_155 248 = .inl (fcI g, 20, .inl (F 8)) := by rw [q_156]; exact (fu_ne (by omega)).trans m_154r8
          refine lv_aload_n hx hb dX8_readsRumour_57 rfl (lv_at hl 0 rfl) ?_
          refine lv_aload_n hx hb dX8_readsRumour_58 rfl (lv_at hl 0 rfl) ?_
          refine fs_get E hP (k := 239) (v := .int (-1)) 16 fc8 h_157 (by omega) (by decide) (wm wl_16 (i := 15) rfl) rfl dX8_readsRumour_59 ?_
          refine lv_if_lt (tgt := 91) hx hb dX8_readsRumour_62 (by decide) (fun c_62 => ?_) (fun c_62 => ?_)
          rotate_left
          · exact absurd c_62 (by decide)
          refine lv_iconst (v := (-1)) hx hb dX8_readsRumour_91 (by decide) ?_
          refine lv_goto (tgt := 113) hx hb dX8_readsRumour_92 (by decide) ?_
          refine fs_put E hP hS (k := 239) 18 fc8 h_157 (by omega) (by decide) (wm wl_16 (i := 17) rfl) rfl rfl rfl rfl (Nat.le_of_ble_eq_true rfl) dX8_readsRumour_113 (fun ct_167 H locs q_168 hP hS => ?_)
          have h_169 : ct_167 239 = .inr (8, [.ref (fa g 240), .ref (fa g 241), .int (z 0), .ref (fa g 242), .ref (fa g 243), .ref (fa g 244), .int (z 1), .ref (fa g 245), .int (z 2), .ref (fa g 246), .ref (fa g 247), .ref (fa g 248), .int (z 3), .int (z 4), .int (nI (a + 3)), .int (nI (t a - 48)), .int (-1), .int (nI (t (a + 2) - 48)), .int (-1)]) := by rw [q_168]; exact fu_eq _ _ _
          have h_170 : ct_167 240 = .inl (fcI g, 121, .inl (F 0)) := by rw [q_168]; exact (fu_ne (by omega)).trans h_158
          have h_171 : ct_167 241 = .inl (fcI g, 726, .inl (F 1)) := by rw [q_168]; exact (fu_ne (by omega)).trans h_159
          have h_172 : ct_167 242 = .inl (fcI g, 242, .inl (F 2)) := by rw [q_168]; exact (fu_ne (by omega)).trans h_160
          have h_173 : ct_167 243 = .inl (fcI g, 2, .inl (F 3)) := by rw [q_168]; exact (fu_ne (by omega)).trans h_161
          have h_174 : ct_167 244 = .inl (fcI g, 60, .inl (F 4)) := by rw [q_168]; exact (fu_ne (by omega)).trans h_162
          have h_175 : ct_167 245 = .inl (fcI g, 6, .inl (F 5)) := by rw [q_168]; exact (fu_ne (by omega)).trans h_163
          have h_176 : ct_167 246 = .inl (fcI g, 36, .inl (F 6)) := by rw [q_168]; exact (fu_ne (by omega)).trans h_164
          have h_177 : ct_167 247 = .inl (fcI g, 20, .inl (F 7)) := by rw [q_168]; exact (fu_ne (by omega)).trans h_165
          have h_178 : ct_167 248 = .inl (fcI g, 20, .inl (F 8)) := by rw [q_168]; exact (fu_ne (by omega)).trans h_166
          refine lv_aload_n hx hb dX8_readsRumour_116 rfl (lv_at hl 0 rfl) ?_
          refine fs_get E hP (k := 239) (v := .int (-1)) 18 fc8 h_169 (by omega) (by decide) (wm wl_16 (i := 17) rfl) rfl dX8_readsRumour_117 ?_
          refine lv_if_lt (tgt := 127) hx hb dX8_readsRumour_120 (by decide) (fun c_120 => ?_) (fun c_120 => ?_)
          rotate_left
          · exact absurd c_120 (by decide)
          refine lv_iconst (v := (nI 0)) hx hb dX8_readsRumour_127 (by decide) ?_
          have MB_179 : MA g ct_167 (mkz (z 0) (z 1) (z 2) (z 3) (z 4) (nI (a + 3)) (nI (t a - 48)) (-1) (nI (t (a + 2) - 48)) (-1)) F := ⟨h_169, h_170, h_171, h_172, h_173, h_174, h_175, h_176, h_177, h_178⟩
          refine fs_zret E hr rfl hlk hP hS dX8_readsRumour_128 ?_
          exact ⟨Or.inr ⟨_, _, _, _, _, rd3 h6 A_3 A_20 A_28 A_47, rfl, MB_179⟩, (show fSame 239 249 _ _ from (fSame.ap (fSame.ap (fSame.tr2 (fSame.ap (fSame.tr2 (fSame.tr2 (fSame.ap (fSame.tr2 fSame.rf s_3 (by omega) (by omega)) q_6 (by omega) (by omega)) s_20 (by omega) (by omega)) s_28 (by omega) (by omega)) q_24 (by omega) (by omega)) s_47 (by omega) (by omega)) q_156 (by omega) (by omega)) q_168 (by omega) (by omega)))⟩
      · have m_180o : ct_21 239 = .inr (8, [.ref (fa g 240), .ref (fa g 241), .int (z 0), .ref (fa g 242), .ref (fa g 243), .ref (fa g 244), .int (z 1), .ref (fa g 245), .int (z 2), .ref (fa g 246), .ref (fa g 247), .ref (fa g 248), .int (z 3), .int (z 4), .int (nI (a + 2)), .int (nI (t a - 48)), .int y7, .int y8, .int y9]) := (M_28).1
        have m_180r0 : ct_21 240 = .inl (fcI g, 121, .inl (F 0)) := (M_28).2.1
        have m_180r1 : ct_21 241 = .inl (fcI g, 726, .inl (F 1)) := (M_28).2.2.1
        have m_180r2 : ct_21 242 = .inl (fcI g, 242, .inl (F 2)) := (M_28).2.2.2.1
        have m_180r3 : ct_21 243 = .inl (fcI g, 2, .inl (F 3)) := (M_28).2.2.2.2.1
        have m_180r4 : ct_21 244 = .inl (fcI g, 60, .inl (F 4)) := (M_28).2.2.2.2.2.1
        have m_180r5 : ct_21 245 = .inl (fcI g, 6, .inl (F 5)) := (M_28).2.2.2.2.2.2.1
        have m_180r6 : ct_21 246 = .inl (fcI g, 36, .inl (F 6)) := (M_28).2.2.2.2.2.2.2.1
        have m_180r7 : ct_21 247 = .inl (fcI g, 20, .inl (F 7)) := (M_28).2.2.2.2.2.2.2.2.1
        have m_180r8 : ct_21 248 = .inl (fcI g, 20, .inl (F 8)) := (M_28).2.2.2.2.2.2.2.2.2
        refine fs_vi (y := (-1)) e_28 ?_
        refine lv_goto (tgt := 35) hx hb dX8_readsRumour_31 (by decide) ?_
        refine fs_put E hP hS (k := 239) 17 fc8 m_180o (by omega) (by decide) (wm wl_16 (i := 16) rfl) rfl rfl rfl rfl (Nat.le_of_ble_eq_true rfl) dX8_readsRumour_35 (fun ct_181 H locs q_182 hP hS => ?_)
        have h_183 : ct_181 239 = .inr (8, [.ref (fa g 240), .ref (fa g 241), .int (z 0), .ref (fa g 242), .ref (fa g 243), .ref (fa g 244), .int (z 1), .ref (fa g 245), .int (z 2), .ref (fa g 246), .ref (fa g 247), .ref (fa g 248), .int (z 3), .int (z 4), .int (nI (a + 2)), .int (nI (t a - 48)), .int y7, .int (-1), .int y9]) := by rw [q_182]; exact fu_eq _ _ _
        have h_184 : ct_181 240 = .inl (fcI g, 121, .inl (F 0)) := by rw [q_182]; exact (fu_ne (by omega)).trans m_180r0
        have h_185 : ct_181 241 = .inl (fcI g, 726, .inl (F 1)) := by rw [q_182]; exact (fu_ne (by omega)).trans m_180r1
        have h_186 : ct_181 242 = .inl (fcI g, 242, .inl (F 2)) := by rw [q_182]; exact (fu_ne (by omega)).trans m_180r2
        have h_187 : ct_181 243 = .inl (fcI g, 2, .inl (F 3)) := by rw [q_182]; exact (fu_ne (by omega)).trans m_180r3
        have h_188 : ct_181 244 = .inl (fcI g, 60, .inl (F 4)) := by rw [q_182]; exact (fu_ne (by omega)).trans m_180r4
        have h_189 : ct_181 245 = .inl (fcI g, 6, .inl (F 5)) := by rw [q_182]; exact (fu_ne (by omega)).trans m_180r5
        have h_190 : ct_181 246 = .inl (fcI g, 36, .inl (F 6)) := by rw [q_182]; exact (fu_ne (by omega)).trans m_180r6
        have h_191 : ct_181 247 = .inl (fcI g, 20, .inl (F 7)) := by rw [q_182]; exact (fu_ne (by omega)).trans m_180r7
        have h_192 : ct_181 248 = .inl (fcI g, 20, .inl (F 8)) := by rw [q_182]; exact (fu_ne (by omega)).trans m_180r8
        refine lv_aload_n hx hb dX8_readsRumour_38 rfl (lv_at hl 0 rfl) ?_
        refine lv_aload_n hx hb dX8_readsRumour_39 rfl (lv_at hl 0 rfl) ?_
        refine fs_get E hP (k := 239) (v := .int (-1)) 17 fc8 h_183 (by omega) (by decide) (wm wl_16 (i := 16) rfl) rfl dX8_readsRumour_40 ?_
        refine lv_if_lt (tgt := 53) hx hb dX8_readsRumour_43 (by decide) (fun c_43 => ?_) (fun c_43 => ?_)
        rotate_left
        · exact absurd c_43 (by decide)
        refine lv_iconst (v := (-1)) hx hb dX8_readsRumour_53 (by decide) ?_
        refine fs_put E hP hS (k := 239) 16 fc8 h_183 (by omega) (by decide) (wm wl_16 (i := 15) rfl) rfl rfl rfl rfl (Nat.le_of_ble_eq_true rfl) dX8_readsRumour_54 (fun ct_193 H locs q_194 hP hS => ?_)
        have h_195 : ct_193 239 = .inr (8, [.ref (fa g 240), .ref (fa g 241), .int (z 0), .ref (fa g 242), .ref (fa g 243), .ref (fa g 244), .int (z 1), .ref (fa g 245), .int (z 2), .ref (fa g 246), .ref (fa g 247), .ref (fa g 248), .int (z 3), .int (z 4), .int (nI (a + 2)), .int (nI (t a - 48)), .int (-1), .int (-1), .int y9]) := by rw [q_194]; exact fu_eq _ _ _
        have h_196 : ct_193 240 = .inl (fcI g, 121, .inl (F 0)) := by rw [q_194]; exact (fu_ne (by omega)).trans h_184
        have h_197 : ct_193 241 = .inl (fcI g, 726, .inl (F 1)) := by rw [q_194]; exact (fu_ne (by omega)).trans h_185
        have h_198 : ct_193 242 = .inl (fcI g, 242, .inl (F 2)) := by rw [q_194]; exact (fu_ne (by omega)).trans h_186
        have h_199 : ct_193 243 = .inl (fcI g, 2, .inl (F 3)) := by rw [q_194]; exact (fu_ne (by omega)).trans h_187
        have h_200 : ct_193 244 = .inl (fcI g, 60, .inl (F 4)) := by rw [q_194]; exact (fu_ne (by omega)).trans h_188
        have h_201 : ct_193 245 = .inl (fcI g, 6, .inl (F 5)) := by rw [q_194]; exact (fu_ne (by omega)).trans h_189
        have h_202 : ct_193 246 = .inl (fcI g, 36, .inl (F 6)) := by rw [q_194]; exact (fu_ne (by omega)).trans h_190
        have h_203 : ct_193 247 = .inl (fcI g, 20, .inl (F 7)) := by rw [q_194]; exact (fu_ne (by omega)).trans h_191
        have h_204 : ct_193 248 = .inl (fcI g, 20, .inl (F 8)) := by rw [q_194]; exact (fu_ne (by omega)).trans h_192
        refine lv_aload_n hx hb dX8_readsRumour_57 rfl (lv_at hl 0 rfl) ?_
        refine lv_aload_n hx hb dX8_readsRumour_58 rfl (lv_at hl 0 rfl) ?_
        refine fs_get E hP (k := 239) (v := .int (-1)) 16 fc8 h_195 (by omega) (by decide) (wm wl_16 (i := 15) rfl) rfl dX8_readsRumour_59 ?_
        refine lv_if_lt (tgt := 91) hx hb dX8_readsRumour_62 (by decide) (fun c_62 => ?_) (fun c_62 => ?_)
        rotate_left
        · exact absurd c_62 (by decide)
        refine lv_iconst (v := (-1)) hx hb dX8_readsRumour_91 (by decide) ?_
        refine lv_goto (tgt := 113) hx hb dX8_readsRumour_92 (by decide) ?_
        refine fs_put E hP hS (k := 239) 18 fc8 h_195 (by omega) (by decide) (wm wl_16 (i := 17) rfl) rfl rfl rfl rfl (Nat.le_of_ble_eq_true rfl) dX8_readsRumour_113 (fun ct_205 H locs q_206 hP hS => ?_)
        have h_207 : ct_205 239 = .inr (8, [.ref (fa g 240), .ref (fa g 241), .int (z 0), .ref (fa g 242), .ref (fa g 243), .ref (fa g 244), .int (z 1), .ref (fa g 245), .int (z 2), .ref (fa g 246), .ref (fa g 247), .ref (fa g 248), .int (z 3), .int (z 4), .int (nI (a + 2)), .int (nI (t a - 48)), .int (-1), .int (-1), .int (-1)]) := by rw [q_206]; exact fu_eq _ _ _
        have h_208 : ct_205 240 = .inl (fcI g, 121, .inl (F 0)) := by rw [q_206]; exact (fu_ne (by omega)).trans h_196
        have h_209 : ct_205 241 = .inl (fcI g, 726, .inl (F 1)) := by rw [q_206]; exact (fu_ne (by omega)).trans h_197
        have h_210 : ct_205 242 = .inl (fcI g, 242, .inl (F 2)) := by rw [q_206]; exact (fu_ne (by omega)).trans h_198
        have h_211 : ct_205 243 = .inl (fcI g, 2, .inl (F 3)) := by rw [q_206]; exact (fu_ne (by omega)).trans h_199
        have h_212 : ct_205 244 = .inl (fcI g, 60, .inl (F 4)) := by rw [q_206]; exact (fu_ne (by omega)).trans h_200
        have h_213 : ct_205 245 = .inl (fcI g, 6, .inl (F 5)) := by rw [q_206]; exact (fu_ne (by omega)).trans h_201
        have h_214 : ct_205 246 = .inl (fcI g, 36, .inl (F 6)) := by rw [q_206]; exact (fu_ne (by omega)).trans h_202
        have h_215 : ct_205 247 = .inl (fcI g, 20, .inl (F 7)) := by rw [q_206]; exact (fu_ne (by omega)).trans h_203
        have h_216 : ct_205 248 = .inl (fcI g, 20, .inl (F 8)) := by rw [q_206]; exact (fu_ne (by omega)).trans h_204
        refine lv_aload_n hx hb dX8_readsRumour_116 rfl (lv_at hl 0 rfl) ?_
        refine fs_get E hP (k := 239) (v := .int (-1)) 18 fc8 h_207 (by omega) (by decide) (wm wl_16 (i := 17) rfl) rfl dX8_readsRumour_117 ?_
        refine lv_if_lt (tgt := 127) hx hb dX8_readsRumour_120 (by decide) (fun c_120 => ?_) (fun c_120 => ?_)
        rotate_left
        · exact absurd c_120 (by decide)
        refine lv_iconst (v := (nI 0)) hx hb dX8_readsRumour_127 (by decide) ?_
        have MB_217 : MA g ct_205 (mkz (z 0) (z 1) (z 2) (z 3) (z 4) (nI (a + 2)) (nI (t a - 48)) (-1) (-1) (-1)) F := ⟨h_207, h_208, h_209, h_210, h_211, h_212, h_213, h_214, h_215, h_216⟩
        refine fs_zret E hr rfl hlk hP hS dX8_readsRumour_128 ?_
        exact ⟨Or.inr ⟨_, _, _, _, _, rd2 h6 A_3 A_20 A_28, rfl, MB_217⟩, (show fSame 239 249 _ _ from (fSame.ap (fSame.ap (fSame.ap (fSame.tr2 (fSame.tr2 (fSame.ap (fSame.tr2 fSame.rf s_3 (by omega) (by omega)) q_6 (by omega) (by omega)) s_20 (by omega) (by omega)) s_28 (by omega) (by omega)) q_182 (by omega) (by omega)) q_194 (by omega) (by omega)) q_206 (by omega) (by omega)))⟩
    · have m_218o : ct_18 239 = .inr (8, [.ref (fa g 240), .ref (fa g 241), .int (z 0), .ref (fa g 242), .ref (fa g 243), .ref (fa g 244), .int (z 1), .ref (fa g 245), .int (z 2), .ref (fa g 246), .ref (fa g 247), .ref (fa g 248), .int (z 3), .int (z 4), .int (nI (a + 1)), .int (nI (t a - 48)), .int y7, .int y8, .int y9]) := (M_20).1
      have m_218r0 : ct_18 240 = .inl (fcI g, 121, .inl (F 0)) := (M_20).2.1
      have m_218r1 : ct_18 241 = .inl (fcI g, 726, .inl (F 1)) := (M_20).2.2.1
      have m_218r2 : ct_18 242 = .inl (fcI g, 242, .inl (F 2)) := (M_20).2.2.2.1
      have m_218r3 : ct_18 243 = .inl (fcI g, 2, .inl (F 3)) := (M_20).2.2.2.2.1
      have m_218r4 : ct_18 244 = .inl (fcI g, 60, .inl (F 4)) := (M_20).2.2.2.2.2.1
      have m_218r5 : ct_18 245 = .inl (fcI g, 6, .inl (F 5)) := (M_20).2.2.2.2.2.2.1
      have m_218r6 : ct_18 246 = .inl (fcI g, 36, .inl (F 6)) := (M_20).2.2.2.2.2.2.2.1
      have m_218r7 : ct_18 247 = .inl (fcI g, 20, .inl (F 7)) := (M_20).2.2.2.2.2.2.2.2.1
      have m_218r8 : ct_18 248 = .inl (fcI g, 20, .inl (F 8)) := (M_20).2.2.2.2.2.2.2.2.2
      refine fs_vi (y := (nI 0)) e_20 ?_
      refine lv_if_eq (tgt := 34) hx hb dX8_readsRumour_23 (by decide) (fun c_23 => ?_) (fun c_23 => ?_)
      rotate_left
      · exact absurd c_23 (by decide)
      refine lv_iconst (v := (-1)) hx hb dX8_readsRumour_34 (by decide) ?_
      refine fs_put E hP hS (k := 239) 17 fc8 m_218o (by omega) (by decide) (wm wl_16 (i := 16) rfl) rfl rfl rfl rfl (Nat.le_of_ble_eq_true rfl) dX8_readsRumour_35 (fun ct_219 H locs q_220 hP hS => ?_)
      have h_221 : ct_219 239 = .inr (8, [.ref (fa g 240), .ref (fa g 241), .int (z 0), .ref (fa g 242), .ref (fa g 243), .ref (fa g 244), .int (z 1), .ref (fa g 245), .int (z 2), .ref (fa g 246), .ref (fa g 247), .ref (fa g 248), .int (z 3), .int (z 4), .int (nI (a + 1)), .int (nI (t a - 48)), .int y7, .int (-1), .int y9]) := by rw [q_220]; exact fu_eq _ _ _
      have h_222 : ct_219 240 = .inl (fcI g, 121, .inl (F 0)) := by rw [q_220]; exact (fu_ne (by omega)).trans m_218r0
      have h_223 : ct_219 241 = .inl (fcI g, 726, .inl (F 1)) := by rw [q_220]; exact (fu_ne (by omega)).trans m_218r1
      have h_224 : ct_219 242 = .inl (fcI g, 242, .inl (F 2)) := by rw [q_220]; exact (fu_ne (by omega)).trans m_218r2
      have h_225 : ct_219 243 = .inl (fcI g, 2, .inl (F 3)) := by rw [q_220]; exact (fu_ne (by omega)).trans m_218r3
      have h_226 : ct_219 244 = .inl (fcI g, 60, .inl (F 4)) := by rw [q_220]; exact (fu_ne (by omega)).trans m_218r4
      have h_227 : ct_219 245 = .inl (fcI g, 6, .inl (F 5)) := by rw [q_220]; exact (fu_ne (by omega)).trans m_218r5
      have h_228 : ct_219 246 = .inl (fcI g, 36, .inl (F 6)) := by rw [q_220]; exact (fu_ne (by omega)).trans m_218r6
      have h_229 : ct_219 247 = .inl (fcI g, 20, .inl (F 7)) := by rw [q_220]; exact (fu_ne (by omega)).trans m_218r7
      have h_230 : ct_219 248 = .inl (fcI g, 20, .inl (F 8)) := by rw [q_220]; exact (fu_ne (by omega)).trans m_218r8
      refine lv_aload_n hx hb dX8_readsRumour_38 rfl (lv_at hl 0 rfl) ?_
      refine lv_aload_n hx hb dX8_readsRumour_39 rfl (lv_at hl 0 rfl) ?_
      refine fs_get E hP (k := 239) (v := .int (-1)) 17 fc8 h_221 (by omega) (by decide) (wm wl_16 (i := 16) rfl) rfl dX8_readsRumour_40 ?_
      refine lv_if_lt (tgt := 53) hx hb dX8_readsRumour_43 (by decide) (fun c_43 => ?_) (fun c_43 => ?_)
      rotate_left
      · exact absurd c_43 (by decide)
      refine lv_iconst (v := (-1)) hx hb dX8_readsRumour_53 (by decide) ?_
      refine fs_put E hP hS (k := 239) 16 fc8 h_221 (by omega) (by decide) (wm wl_16 (i := 15) rfl) rfl rfl rfl rfl (Nat.le_of_ble_eq_true rfl) dX8_readsRumour_54 (fun ct_231 H locs q_232 hP hS => ?_)
      have h_233 : ct_231 239 = .inr (8, [.ref (fa g 240), .ref (fa g 241), .int (z 0), .ref (fa g 242), .ref (fa g 243), .ref (fa g 244), .int (z 1), .ref (fa g 245), .int (z 2), .ref (fa g 246), .ref (fa g 247), .ref (fa g 248), .int (z 3), .int (z 4), .int (nI (a + 1)), .int (nI (t a - 48)), .int (-1), .int (-1), .int y9]) := by rw [q_232]; exact fu_eq _ _ _
      have h_234 : ct_231 240 = .inl (fcI g, 121, .inl (F 0)) := by rw [q_232]; exact (fu_ne (by omega)).trans h_222
      have h_235 : ct_231 241 = .inl (fcI g, 726, .inl (F 1)) := by rw [q_232]; exact (fu_ne (by omega)).trans h_223
      have h_236 : ct_231 242 = .inl (fcI g, 242, .inl (F 2)) := by rw [q_232]; exact (fu_ne (by omega)).trans h_224
      have h_237 : ct_231 243 = .inl (fcI g, 2, .inl (F 3)) := by rw [q_232]; exact (fu_ne (by omega)).trans h_225
      have h_238 : ct_231 244 = .inl (fcI g, 60, .inl (F 4)) := by rw [q_232]; exact (fu_ne (by omega)).trans h_226
      have h_239 : ct_231 245 = .inl (fcI g, 6, .inl (F 5)) := by rw [q_232]; exact (fu_ne (by omega)).trans h_227
      have h_240 : ct_231 246 = .inl (fcI g, 36, .inl (F 6)) := by rw [q_232]; exact (fu_ne (by omega)).trans h_228
      have h_241 : ct_231 247 = .inl (fcI g, 20, .inl (F 7)) := by rw [q_232]; exact (fu_ne (by omega)).trans h_229
      have h_242 : ct_231 248 = .inl (fcI g, 20, .inl (F 8)) := by rw [q_232]; exact (fu_ne (by omega)).trans h_230
      refine lv_aload_n hx hb dX8_readsRumour_57 rfl (lv_at hl 0 rfl) ?_
      refine lv_aload_n hx hb dX8_readsRumour_58 rfl (lv_at hl 0 rfl) ?_
      refine fs_get E hP (k := 239) (v := .int (-1)) 16 fc8 h_233 (by omega) (by decide) (wm wl_16 (i := 15) rfl) rfl dX8_readsRumour_59 ?_
      refine lv_if_lt (tgt := 91) hx hb dX8_readsRumour_62 (by decide) (fun c_62 => ?_) (fun c_62 => ?_)
      rotate_left
      · exact absurd c_62 (by decide)
      refine lv_iconst (v := (-1)) hx hb dX8_readsRumour_91 (by decide) ?_
      refine lv_goto (tgt := 113) hx hb dX8_readsRumour_92 (by decide) ?_
      refine fs_put E hP hS (k := 239) 18 fc8 h_233 (by omega) (by decide) (wm wl_16 (i := 17) rfl) rfl rfl rfl rfl (Nat.le_of_ble_eq_true rfl) dX8_readsRumour_113 (fun ct_243 H locs q_244 hP hS => ?_)
      have h_245 : ct_243 239 = .inr (8, [.ref (fa g 240), .ref (fa g 241), .int (z 0), .ref (fa g 242), .ref (fa g 243), .ref (fa g 244), .int (z 1), .ref (fa g 245), .int (z 2), .ref (fa g 246), .ref (fa g 247), .ref (fa g 248), .int (z 3), .int (z 4), .int (nI (a + 1)), .int (nI (t a - 48)), .int (-1), .int (-1), .int (-1)]) := by rw [q_244]; exact fu_eq _ _ _
      have h_246 : ct_243 240 = .inl (fcI g, 121, .inl (F 0)) := by rw [q_244]; exact (fu_ne (by omega)).trans h_234
      have h_247 : ct_243 241 = .inl (fcI g, 726, .inl (F 1)) := by rw [q_244]; exact (fu_ne (by omega)).trans h_235
      have h_248 : ct_243 242 = .inl (fcI g, 242, .inl (F 2)) := by rw [q_244]; exact (fu_ne (by omega)).trans h_236
      have h_249 : ct_243 243 = .inl (fcI g, 2, .inl (F 3)) := by rw [q_244]; exact (fu_ne (by omega)).trans h_237
      have h_250 : ct_243 244 = .inl (fcI g, 60, .inl (F 4)) := by rw [q_244]; exact (fu_ne (by omega)).trans h_238
      have h_251 : ct_243 245 = .inl (fcI g, 6, .inl (F 5)) := by rw [q_244]; exact (fu_ne (by omega)).trans h_239
      have h_252 : ct_243 246 = .inl (fcI g, 36, .inl (F 6)) := by rw [q_244]; exact (fu_ne (by omega)).trans h_240
      have h_253 : ct_243 247 = .inl (fcI g, 20, .inl (F 7)) := by rw [q_244]; exact (fu_ne (by omega)).trans h_241
      have h_254 : ct_243 248 = .inl (fcI g, 20, .inl (F 8)) := by rw [q_244]; exact (fu_ne (by omega)).trans h_242
      refine lv_aload_n hx hb dX8_readsRumour_116 rfl (lv_at hl 0 rfl) ?_
      refine fs_get E hP (k := 239) (v := .int (-1)) 18 fc8 h_245 (by omega) (by decide) (wm wl_16 (i := 17) rfl) rfl dX8_readsRumour_117 ?_
      refine lv_if_lt (tgt := 127) hx hb dX8_readsRumour_120 (by decide) (fun c_120 => ?_) (fun c_120 => ?_)
      rotate_left
      · exact absurd c_120 (by decide)
      refine lv_iconst (v := (nI 0)) hx hb dX8_readsRumour_127 (by decide) ?_
      have MB_255 : MA g ct_243 (mkz (z 0) (z 1) (z 2) (z 3) (z 4) (nI (a + 1)) (nI (t a - 48)) (-1) (-1) (-1)) F := ⟨h_245, h_246, h_247, h_248, h_249, h_250, h_251, h_252, h_253, h_254⟩
      refine fs_zret E hr rfl hlk hP hS dX8_readsRumour_128 ?_
      exact ⟨Or.inr ⟨_, _, _, _, _, rd1 h6 A_3 A_20, rfl, MB_255⟩, (show fSame 239 249 _ _ from (fSame.ap (fSame.ap (fSame.ap (fSame.tr2 (fSame.ap (fSame.tr2 fSame.rf s_3 (by omega) (by omega)) q_6 (by omega) (by omega)) s_20 (by omega) (by omega)) q_220 (by omega) (by omega)) q_232 (by omega) (by omega)) q_244 (by omega) (by omega)))⟩
  · have m_256o : ct_3 239 = .inr (8, [.ref (fa g 240), .ref (fa g 241), .int (z 0), .ref (fa g 242), .ref (fa g 243), .ref (fa g 244), .int (z 1), .ref (fa g 245), .int (z 2), .ref (fa g 246), .ref (fa g 247), .ref (fa g 248), .int (z 3), .int (z 4), .int (nI a), .int y6, .int y7, .int y8, .int y9]) := (M_3).1
    have m_256r0 : ct_3 240 = .inl (fcI g, 121, .inl (F 0)) := (M_3).2.1
    have m_256r1 : ct_3 241 = .inl (fcI g, 726, .inl (F 1)) := (M_3).2.2.1
    have m_256r2 : ct_3 242 = .inl (fcI g, 242, .inl (F 2)) := (M_3).2.2.2.1
    have m_256r3 : ct_3 243 = .inl (fcI g, 2, .inl (F 3)) := (M_3).2.2.2.2.1
    have m_256r4 : ct_3 244 = .inl (fcI g, 60, .inl (F 4)) := (M_3).2.2.2.2.2.1
    have m_256r5 : ct_3 245 = .inl (fcI g, 6, .inl (F 5)) := (M_3).2.2.2.2.2.2.1
    have m_256r6 : ct_3 246 = .inl (fcI g, 36, .inl (F 6)) := (M_3).2.2.2.2.2.2.2.1
    have m_256r7 : ct_3 247 = .inl (fcI g, 20, .inl (F 7)) := (M_3).2.2.2.2.2.2.2.2.1
    have m_256r8 : ct_3 248 = .inl (fcI g, 20, .inl (F 8)) := (M_3).2.2.2.2.2.2.2.2.2
    refine fs_vi (y := (-1)) e_3 ?_
    refine fs_put E hP hS (k := 239) 15 fc8 m_256o (by omega) (by decide) (wm wl_16 (i := 14) rfl) rfl rfl rfl rfl (Nat.le_of_ble_eq_true rfl) dX8_readsRumour_6 (fun ct_257 H locs q_258 hP hS => ?_)
    have h_259 : ct_257 239 = .inr (8, [.ref (fa g 240), .ref (fa g 241), .int (z 0), .ref (fa g 242), .ref (fa g 243), .ref (fa g 244), .int (z 1), .ref (fa g 245), .int (z 2), .ref (fa g 246), .ref (fa g 247), .ref (fa g 248), .int (z 3), .int (z 4), .int (nI a), .int (-1), .int y7, .int y8, .int y9]) := by rw [q_258]; exact fu_eq _ _ _
    have h_260 : ct_257 240 = .inl (fcI g, 121, .inl (F 0)) := by rw [q_258]; exact (fu_ne (by omega)).trans m_256r0
    have h_261 : ct_257 241 = .inl (fcI g, 726, .inl (F 1)) := by rw [q_258]; exact (fu_ne (by omega)).trans m_256r1
    have h_262 : ct_257 242 = .inl (fcI g, 242, .inl (F 2)) := by rw [q_258]; exact (fu_ne (by omega)).trans m_256r2
    have h_263 : ct_257 243 = .inl (fcI g, 2, .inl (F 3)) := by rw [q_258]; exact (fu_ne (by omega)).trans m_256r3
    have h_264 : ct_257 244 = .inl (fcI g, 60, .inl (F 4)) := by rw [q_258]; exact (fu_ne (by omega)).trans m_256r4
    have h_265 : ct_257 245 = .inl (fcI g, 6, .inl (F 5)) := by rw [q_258]; exact (fu_ne (by omega)).trans m_256r5
    have h_266 : ct_257 246 = .inl (fcI g, 36, .inl (F 6)) := by rw [q_258]; exact (fu_ne (by omega)).trans m_256r6
    have h_267 : ct_257 247 = .inl (fcI g, 20, .inl (F 7)) := by rw [q_258]; exact (fu_ne (by omega)).trans m_256r7
    have h_268 : ct_257 248 = .inl (fcI g, 20, .inl (F 8)) := by rw [q_258]; exact (fu_ne (by omega)).trans m_256r8
    refine lv_aload_n hx hb dX8_readsRumour_9 rfl (lv_at hl 0 rfl) ?_
    refine lv_aload_n hx hb dX8_readsRumour_10 rfl (lv_at hl 0 rfl) ?_
    refine fs_get E hP (k := 239) (v := .int (-1)) 15 fc8 h_259 (by omega) (by decide) (wm wl_16 (i := 14) rfl) rfl dX8_readsRumour_11 ?_
    refine lv_if_lt (tgt := 34) hx hb dX8_readsRumour_14 (by decide) (fun c_14 => ?_) (fun c_14 => ?_)
    rotate_left
    · exact absurd c_14 (by decide)
    refine lv_iconst (v := (-1)) hx hb dX8_readsRumour_34 (by decide) ?_
    refine fs_put E hP hS (k := 239) 17 fc8 h_259 (by omega) (by decide) (wm wl_16 (i := 16) rfl) rfl rfl rfl rfl (Nat.le_of_ble_eq_true rfl) dX8_readsRumour_35 (fun ct_269 H locs q_270 hP hS => ?_)
    have h_271 : ct_269 239 = .inr (8, [.ref (fa g 240), .ref (fa g 241), .int (z 0), .ref (fa g 242), .ref (fa g 243), .ref (fa g 244), .int (z 1), .ref (fa g 245), .int (z 2), .ref (fa g 246), .ref (fa g 247), .ref (fa g 248), .int (z 3), .int (z 4), .int (nI a), .int (-1), .int y7, .int (-1), .int y9]) := by rw [q_270]; exact fu_eq _ _ _
    have h_272 : ct_269 240 = .inl (fcI g, 121, .inl (F 0)) := by rw [q_270]; exact (fu_ne (by omega)).trans h_260
    have h_273 : ct_269 241 = .inl (fcI g, 726, .inl (F 1)) := by rw [q_270]; exact (fu_ne (by omega)).trans h_261
    have h_274 : ct_269 242 = .inl (fcI g, 242, .inl (F 2)) := by rw [q_270]; exact (fu_ne (by omega)).trans h_262
    have h_275 : ct_269 243 = .inl (fcI g, 2, .inl (F 3)) := by rw [q_270]; exact (fu_ne (by omega)).trans h_263
    have h_276 : ct_269 244 = .inl (fcI g, 60, .inl (F 4)) := by rw [q_270]; exact (fu_ne (by omega)).trans h_264
    have h_277 : ct_269 245 = .inl (fcI g, 6, .inl (F 5)) := by rw [q_270]; exact (fu_ne (by omega)).trans h_265
    have h_278 : ct_269 246 = .inl (fcI g, 36, .inl (F 6)) := by rw [q_270]; exact (fu_ne (by omega)).trans h_266
    have h_279 : ct_269 247 = .inl (fcI g, 20, .inl (F 7)) := by rw [q_270]; exact (fu_ne (by omega)).trans h_267
    have h_280 : ct_269 248 = .inl (fcI g, 20, .inl (F 8)) := by rw [q_270]; exact (fu_ne (by omega)).trans h_268
    refine lv_aload_n hx hb dX8_readsRumour_38 rfl (lv_at hl 0 rfl) ?_
    refine lv_aload_n hx hb dX8_readsRumour_39 rfl (lv_at hl 0 rfl) ?_
    refine fs_get E hP (k := 239) (v := .int (-1)) 17 fc8 h_271 (by omega) (by decide) (wm wl_16 (i := 16) rfl) rfl dX8_readsRumour_40 ?_
    refine lv_if_lt (tgt := 53) hx hb dX8_readsRumour_43 (by decide) (fun c_43 => ?_) (fun c_43 => ?_)
    rotate_left
    · exact absurd c_43 (by decide)
    refine lv_iconst (v := (-1)) hx hb dX8_readsRumour_53 (by decide) ?_
    refine fs_put E hP hS (k := 239) 16 fc8 h_271 (by omega) (by decide) (wm wl_16 (i := 15) rfl) rfl rfl rfl rfl (Nat.le_of_ble_eq_true rfl) dX8_readsRumour_54 (fun ct_281 H locs q_282 hP hS => ?_)
    have h_283 : ct_281 239 = .inr (8, [.ref (fa g 240), .ref (fa g 241), .int (z 0), .ref (fa g 242), .ref (fa g 243), .ref (fa g 244), .int (z 1), .ref (fa g 245), .int (z 2), .ref (fa g 246), .ref (fa g 247), .ref (fa g 248), .int (z 3), .int (z 4), .int (nI a), .int (-1), .int (-1), .int (-1), .int y9]) := by rw [q_282]; exact fu_eq _ _ _
    have h_284 : ct_281 240 = .inl (fcI g, 121, .inl (F 0)) := by rw [q_282]; exact (fu_ne (by omega)).trans h_272
    have h_285 : ct_281 241 = .inl (fcI g, 726, .inl (F 1)) := by rw [q_282]; exact (fu_ne (by omega)).trans h_273
    have h_286 : ct_281 242 = .inl (fcI g, 242, .inl (F 2)) := by rw [q_282]; exact (fu_ne (by omega)).trans h_274
    have h_287 : ct_281 243 = .inl (fcI g, 2, .inl (F 3)) := by rw [q_282]; exact (fu_ne (by omega)).trans h_275
    have h_288 : ct_281 244 = .inl (fcI g, 60, .inl (F 4)) := by rw [q_282]; exact (fu_ne (by omega)).trans h_276
    have h_289 : ct_281 245 = .inl (fcI g, 6, .inl (F 5)) := by rw [q_282]; exact (fu_ne (by omega)).trans h_277
    have h_290 : ct_281 246 = .inl (fcI g, 36, .inl (F 6)) := by rw [q_282]; exact (fu_ne (by omega)).trans h_278
    have h_291 : ct_281 247 = .inl (fcI g, 20, .inl (F 7)) := by rw [q_282]; exact (fu_ne (by omega)).trans h_279
    have h_292 : ct_281 248 = .inl (fcI g, 20, .inl (F 8)) := by rw [q_282]; exact (fu_ne (by omega)).trans h_280
    refine lv_aload_n hx hb dX8_readsRumour_57 rfl (lv_at hl 0 rfl) ?_
    refine lv_aload_n hx hb dX8_readsRumour_58 rfl (lv_at hl 0 rfl) ?_
    refine fs_get E hP (k := 239) (v := .int (-1)) 16 fc8 h_283 (by omega) (by decide) (wm wl_16 (i := 15) rfl) rfl dX8_readsRumour_59 ?_
    refine lv_if_lt (tgt := 91) hx hb dX8_readsRumour_62 (by decide) (fun c_62 => ?_) (fun c_62 => ?_)
    rotate_left
    · exact absurd c_62 (by decide)
    refine lv_iconst (v := (-1)) hx hb dX8_readsRumour_91 (by decide) ?_
    refine lv_goto (tgt := 113) hx hb dX8_readsRumour_92 (by decide) ?_
    refine fs_put E hP hS (k := 239) 18 fc8 h_283 (by omega) (by decide) (wm wl_16 (i := 17) rfl) rfl rfl rfl rfl (Nat.le_of_ble_eq_true rfl) dX8_readsRumour_113 (fun ct_293 H locs q_294 hP hS => ?_)
    have h_295 : ct_293 239 = .inr (8, [.ref (fa g 240), .ref (fa g 241), .int (z 0), .ref (fa g 242), .ref (fa g 243), .ref (fa g 244), .int (z 1), .ref (fa g 245), .int (z 2), .ref (fa g 246), .ref (fa g 247), .ref (fa g 248), .int (z 3), .int (z 4), .int (nI a), .int (-1), .int (-1), .int (-1), .int (-1)]) := by rw [q_294]; exact fu_eq _ _ _
    have h_296 : ct_293 240 = .inl (fcI g, 121, .inl (F 0)) := by rw [q_294]; exact (fu_ne (by omega)).trans h_284
    have h_297 : ct_293 241 = .inl (fcI g, 726, .inl (F 1)) := by rw [q_294]; exact (fu_ne (by omega)).trans h_285
    have h_298 : ct_293 242 = .inl (fcI g, 242, .inl (F 2)) := by rw [q_294]; exact (fu_ne (by omega)).trans h_286
    have h_299 : ct_293 243 = .inl (fcI g, 2, .inl (F 3)) := by rw [q_294]; exact (fu_ne (by omega)).trans h_287
    have h_300 : ct_293 244 = .inl (fcI g, 60, .inl (F 4)) := by rw [q_294]; exact (fu_ne (by omega)).trans h_288
    have h_301 : ct_293 245 = .inl (fcI g, 6, .inl (F 5)) := by rw [q_294]; exact (fu_ne (by omega)).trans h_289
    have h_302 : ct_293 246 = .inl (fcI g, 36, .inl (F 6)) := by rw [q_294]; exact (fu_ne (by omega)).trans h_290
    have h_303 : ct_293 247 = .inl (fcI g, 20, .inl (F 7)) := by rw [q_294]; exact (fu_ne (by omega)).trans h_291
    have h_304 : ct_293 248 = .inl (fcI g, 20, .inl (F 8)) := by rw [q_294]; exact (fu_ne (by omega)).trans h_292
    refine lv_aload_n hx hb dX8_readsRumour_116 rfl (lv_at hl 0 rfl) ?_
    refine fs_get E hP (k := 239) (v := .int (-1)) 18 fc8 h_295 (by omega) (by decide) (wm wl_16 (i := 17) rfl) rfl dX8_readsRumour_117 ?_
    refine lv_if_lt (tgt := 127) hx hb dX8_readsRumour_120 (by decide) (fun c_120 => ?_) (fun c_120 => ?_)
    rotate_left
    · exact absurd c_120 (by decide)
    refine lv_iconst (v := (nI 0)) hx hb dX8_readsRumour_127 (by decide) ?_
    have MB_305 : MA g ct_293 (mkz (z 0) (z 1) (z 2) (z 3) (z 4) (nI a) (-1) (-1) (-1) (-1)) F := ⟨h_295, h_296, h_297, h_298, h_299, h_300, h_301, h_302, h_303, h_304⟩
    refine fs_zret E hr rfl hlk hP hS dX8_readsRumour_128 ?_
    exact ⟨Or.inr ⟨_, _, _, _, _, rd0 h6 A_3, rfl, MB_305⟩, (show fSame 239 249 _ _ from (fSame.ap (fSame.ap (fSame.ap (fSame.ap (fSame.tr2 fSame.rf s_3 (by omega) (by omega)) q_258 (by omega) (by omega)) q_270 (by omega) (by omega)) q_282 (by omega) (by omega)) q_294 (by omega) (by omega)))⟩
