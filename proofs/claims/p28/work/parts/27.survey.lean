/-! what all possible worlds say -/
def okB (σ : Nat → Int32) (w : Nat → Nat) : Bool := decide (∀ r, r < nT σ → bad σ w r = false)
def onB (σ : Nat → Int32) (w : Nat → Nat) (r : Nat) : Bool := decide (r < nT σ ∧ bad σ w r = true ∧ ∀ r2, r2 < nT σ → r2 ≠ r → bad σ w r2 = false)
def okq (σ : Nat → Int32) (q : Nat) : Bool := okB σ (wd (nB σ) q)
def lkq (σ : Nat → Int32) (p b q : Nat) : Bool := okq σ q && decide (wd (nB σ) q p = b)
def hdq (σ : Nat → Int32) (r q : Nat) : Bool := okq σ q && hdr σ (wd (nB σ) q) r
def onq (σ : Nat → Int32) (r q : Nat) : Bool := onB σ (wd (nB σ) q) r
def mM (σ : Nat → Int32) : Nat := wM (nB σ)
theorem okq_t {σ : Nat → Int32} {q : Nat} : okq σ q = true ↔ ∀ r, r < nT σ → bad σ (wd (nB σ) q) r = false := by unfold okq okB; exact decide_eq_true_iff
theorem onq_t {σ : Nat → Int32} {r q : Nat} : onq σ r q = true ↔ (r < nT σ ∧ bad σ (wd (nB σ) q) r = true ∧ ∀ r2, r2 < nT σ → r2 ≠ r → bad σ (wd (nB σ) q) r2 = false) := by unfold onq onB; exact decide_eq_true_iff
theorem okq_on {σ : Nat → Int32} {r q : Nat} (h : okq σ q = true) : onq σ r q = false := by
  refine Bool.eq_false_iff.mpr (fun h2 => ?_)
  obtain ⟨h3, h4, -⟩ := onq_t.mp h2
  rw [okq_t.mp h r h3] at h4
  exact absurd h4 (by decide)
theorem okq_f {σ : Nat → Int32} {r q : Nat} (hr : r < nT σ) (h : bad σ (wd (nB σ) q) r = true) : okq σ q = false := by
  refine Bool.eq_false_iff.mpr (fun h2 => ?_)
  rw [okq_t.mp h2 r hr] at h
  exact absurd h (by decide)
theorem nI_ne6 {a : Nat} (h : a < 2147483648) : ¬ nI a = -6 := fun q => by
  have h2 := congrArg Int32.toInt q
  rw [nI_toInt h, show (-6 : Int32).toInt = -6 from rfl] at h2
  omega
theorem Good.M {σ : Nat → Int32} (h : Good σ) : mM σ ≤ 15625 ∧ 0 < mM σ := wM_le h.n3 h.n6
/-- a survey's cells: the object at v, its walk, the walk's row, looking, holding, onlyBroken, supposed; its numbers are those of the first m worlds -/
def SurvP (g : fG) (ct : Nat → va_E) (v : Nat) (σ : Nat → Int32) (m : Nat) : Prop :=
  (∃ mp mw : Int32, ct v = .inr (5, [.ref (fa g (v + 1)), .int (nI (cN (okq σ) m)), .int mp, .int mw, .ref (fa g (v + 3)), .ref (fa g (v + 4)), .ref (fa g (v + 5)), .ref (fa g (v + 6))])) ∧
  (∃ f : Nat → Int32, ct (v + 3) = .inl (fcI g, 36, .inl f) ∧ ∀ p b, p < nB σ → b < 6 → f (6 * p + b) = nI (cN (lkq σ p b) m)) ∧
  (∃ f : Nat → Int32, ct (v + 4) = .inl (fcI g, 20, .inl f) ∧ ∀ r, r < nT σ → f r = nI (cN (hdq σ r) m)) ∧
  (∃ f : Nat → Int32, ct (v + 5) = .inl (fcI g, 20, .inl f) ∧ ∀ r, r < nT σ → f r = nI (cN (onq σ r) m))
def WalkSh (g : fG) (ct : Nat → va_E) (v : Nat) : Prop := (∃ b : Int32, ct (v + 1) = .inr (6, [.int b, .ref (fa g (v + 2))])) ∧ ∃ f : Nat → Int32, ct (v + 2) = .inl (fcI g, 6, .inl f)
def WalkAt (g : fG) (ct : Nat → va_E) (v n q : Nat) : Prop := ct (v + 1) = .inr (6, [.int (nI n), .ref (fa g (v + 2))]) ∧ ∃ f : Nat → Int32, ct (v + 2) = .inl (fcI g, 6, .inl f) ∧ (q < wM n → RW n (wd n q) f)
def SupSh (g : fG) (ct : Nat → va_E) (v : Nat) : Prop := ∃ te kd a b st : Int32, ct (v + 6) = .inr (3, [.int te, .int kd, .int a, .int b, .int st])
def SurvSh (g : fG) (ct : Nat → va_E) (v : Nat) : Prop :=
  (∃ ws mp mw : Int32, ct v = .inr (5, [.ref (fa g (v + 1)), .int ws, .int mp, .int mw, .ref (fa g (v + 3)), .ref (fa g (v + 4)), .ref (fa g (v + 5)), .ref (fa g (v + 6))])) ∧
  (∃ f : Nat → Int32, ct (v + 3) = .inl (fcI g, 36, .inl f)) ∧ (∃ f : Nat → Int32, ct (v + 4) = .inl (fcI g, 20, .inl f)) ∧ (∃ f : Nat → Int32, ct (v + 5) = .inl (fcI g, 20, .inl f)) ∧ WalkSh g ct v ∧ SupSh g ct v
theorem SurvP.keep {g : fG} {ct ct1 : Nat → va_E} {v m : Nat} {σ : Nat → Int32} (H : SurvP g ct v σ m) (h0 : ct1 v = ct v) (h3 : ct1 (v + 3) = ct (v + 3)) (h4 : ct1 (v + 4) = ct (v + 4)) (h5 : ct1 (v + 5) = ct (v + 5)) : SurvP g ct1 v σ m := by
  obtain ⟨⟨a, b, h⟩, ⟨f1, a1, b1⟩, ⟨f2, a2, b2⟩, ⟨f3, a3, b3⟩⟩ := H
  exact ⟨⟨a, b, h0.trans h⟩, ⟨f1, h3.trans a1, b1⟩, ⟨f2, h4.trans a2, b2⟩, ⟨f3, h5.trans a3, b3⟩⟩
theorem WalkAt.sh {g : fG} {ct : Nat → va_E} {v n q : Nat} (H : WalkAt g ct v n q) : WalkSh g ct v := ⟨⟨_, H.1⟩, by obtain ⟨f, h, -⟩ := H.2; exact ⟨f, h⟩⟩
theorem WalkAt.keep {g : fG} {ct ct1 : Nat → va_E} {v n q : Nat} (H : WalkAt g ct v n q) (h1 : ct1 (v + 1) = ct (v + 1)) (h2 : ct1 (v + 2) = ct (v + 2)) : WalkAt g ct1 v n q := by
  obtain ⟨a, f, b, c⟩ := H
  exact ⟨h1.trans a, f, h2.trans b, c⟩
theorem SupSh.keep {g : fG} {ct ct1 : Nat → va_E} {v : Nat} (H : SupSh g ct v) (h : ct1 (v + 6) = ct (v + 6)) : SupSh g ct1 v := by
  obtain ⟨te, kd, a, b, st, e⟩ := H
  exact ⟨te, kd, a, b, st, h.trans e⟩
theorem SurvP.sh {g : fG} {ct : Nat → va_E} {v m : Nat} {σ : Nat → Int32} (H : SurvP g ct v σ m) (hW : WalkSh g ct v) (hS : SupSh g ct v) : SurvSh g ct v := by
  obtain ⟨⟨a, b, h⟩, ⟨f1, a1, b1⟩, ⟨f2, a2, b2⟩, ⟨f3, a3, b3⟩⟩ := H
  exact ⟨⟨_, a, b, h⟩, ⟨f1, a1⟩, ⟨f2, a2⟩, ⟨f3, a3⟩, hW, hS⟩
theorem cN_nI (p : Nat → Bool) (m : Nat) (hm : m < 100000) : cN p m < 100001 := by have := cN_le p m; omega

set_option maxRecDepth 100000 in
set_option maxHeartbeats 4000000 in
theorem c_X5_forget (l : Launch) (g : fG) (N : Nat) (ct : Nat → va_E) (v : Nat) (σ : Nat → Int32) (hNv : v + 7 ≤ N) (hG : Good σ) (hV : SurvSh g ct v) : Met l yX5_forget (wsU yX5_forget cX5_forget 1 none) rX5_forget (fPre g N ct [.ref (fa g v)]) (fQv g N (fun ct1 => SurvP g ct1 v σ 0 ∧ ct1 (v + 1) = ct (v + 1) ∧ ct1 (v + 2) = ct (v + 2) ∧ ct1 (v + 6) = ct (v + 6) ∧ fSame v (v + 7) ct ct1)) 0 0 (fB g) := by
  refine fs_start (own := RX5) (lv0 := [(0, .ref (fa g v))]) (by decide) rfl (Nat.le_of_ble_eq_true rfl) rfl ?_
  intro p e s m args below meth c ls E hr hlk hnm hP hl hS
  have hx := E.1.1
  have hb := E.1.2.1
  obtain ⟨⟨ws, mp, mw, hv0⟩, ⟨g3, hv3⟩, ⟨g4, hv4⟩, ⟨g5, hv5⟩, hWS, hSS⟩ := id hV
  have hG6 := hG.n6
  have hG20 := hG.k
  refine lv_aload_n hx hb dX5_forget_0 rfl (lv_at hl 0 rfl) ?_
  refine lv_iconst (v := (nI 0)) hx hb dX5_forget_1 (by decide) ?_
  refine fs_put E hP hS (k := v) 1 fc5 hv0 (by omega) (by decide) (wm wl_9 (i := 14) rfl) rfl rfl rfl rfl (Nat.le_of_ble_eq_true rfl) dX5_forget_2 (fun ct_1 H locs q_2 hP hS => ?_)
  have h_3 : ct_1 v = .inr (5, [.ref (fa g (v + 1)), .int (nI 0), .int mp, .int mw, .ref (fa g (v + 3)), .ref (fa g (v + 4)), .ref (fa g (v + 5)), .ref (fa g (v + 6))]) := by rw [q_2]; exact fu_eq _ _ _
  have h_4 : ct_1 (v + 3) = .inl (fcI g, 36, .inl g3) := by rw [q_2]; exact (fu_ne (by omega)).trans hv3
  have h_5 : ct_1 (v + 4) = .inl (fcI g, 20, .inl g4) := by rw [q_2]; exact (fu_ne (by omega)).trans hv4
  have h_6 : ct_1 (v + 5) = .inl (fcI g, 20, .inl g5) := by rw [q_2]; exact (fu_ne (by omega)).trans hv5
  refine lv_aload_n hx hb dX5_forget_5 rfl (lv_at hl 0 rfl) ?_
  refine fs_get E hP (k := v) (v := .ref (fa g (v + 3))) 4 fc5 h_3 (by omega) (by decide) (wm wl_3 (i := 22) rfl) rfl dX5_forget_6 ?_
  refine lv_iconst (v := (nI 0)) hx hb dX5_forget_9 (by decide) ?_
  refine fs_v (va_runSN (As := [.ref (fa g (v + 3)), .int (nI 0)]) (rest := []) E.1 (c_X7_fillRow l g N ct_1 (v + 3) 36 g3 (nI 0) (by omega) (by omega) h_4) (lk_RX5_69 E.1.2.2.2.2 (E.2.1.2.1 _ (List.mem_of_getElem? (i := 31) rfl)) ⟨Nat.le_of_ble_eq_true rfl, Nat.le_of_ble_eq_true rfl⟩) (fpreS E hP hS) rfl rfl hl.1 rfl (lv_room (Nat.le_of_ble_eq_true rfl)) dX5_forget_10 ⟨Nat.zero_le _, Nat.zero_le _⟩) hS (fun ct_7 H locs p_10 hP hS => ?_)
  have h_8 : ct_7 v = .inr (5, [.ref (fa g (v + 1)), .int (nI 0), .int mp, .int mw, .ref (fa g (v + 3)), .ref (fa g (v + 4)), .ref (fa g (v + 5)), .ref (fa g (v + 6))]) := by rw [p_10]; exact (fu_ne (by omega)).trans h_3
  have h_9 : ct_7 (v + 3) = .inl (fcI g, 36, .inl (cpF 36 (fun _ => (nI 0)) g3)) := by rw [p_10]; exact fu_eq _ _ _
  have h_10 : ct_7 (v + 4) = .inl (fcI g, 20, .inl g4) := by rw [p_10]; exact (fu_ne (by omega)).trans h_5
  have h_11 : ct_7 (v + 5) = .inl (fcI g, 20, .inl g5) := by rw [p_10]; exact (fu_ne (by omega)).trans h_6
  refine lv_aload_n hx hb dX5_forget_13 rfl (lv_at hl 0 rfl) ?_
  refine fs_get E hP (k := v) (v := .ref (fa g (v + 4))) 5 fc5 h_8 (by omega) (by decide) (wm wl_3 (i := 23) rfl) rfl dX5_forget_14 ?_
  refine lv_iconst (v := (nI 0)) hx hb dX5_forget_17 (by decide) ?_
  refine fs_v (va_runSN (As := [.ref (fa g (v + 4)), .int (nI 0)]) (rest := []) E.1 (c_X7_fillRow l g N ct_7 (v + 4) 20 g4 (nI 0) (by omega) (by omega) h_10) (lk_RX5_69 E.1.2.2.2.2 (E.2.1.2.1 _ (List.mem_of_getElem? (i := 31) rfl)) ⟨Nat.le_of_ble_eq_true rfl, Nat.le_of_ble_eq_true rfl⟩) (fpreS E hP hS) rfl rfl hl.1 rfl (lv_room (Nat.le_of_ble_eq_true rfl)) dX5_forget_18 ⟨Nat.zero_le _, Nat.zero_le _⟩) hS (fun ct_12 H locs p_18 hP hS => ?_)
  have h_13 : ct_12 v = .inr (5, [.ref (fa g (v + 1)), .int (nI 0), .int mp, .int mw, .ref (fa g (v + 3)), .ref (fa g (v + 4)), .ref (fa g (v + 5)), .ref (fa g (v + 6))]) := by rw [p_18]; exact (fu_ne (by omega)).trans h_8
  have h_14 : ct_12 (v + 3) = .inl (fcI g, 36, .inl (cpF 36 (fun _ => (nI 0)) g3)) := by rw [p_18]; exact (fu_ne (by omega)).trans h_9
  have h_15 : ct_12 (v + 4) = .inl (fcI g, 20, .inl (cpF 20 (fun _ => (nI 0)) g4)) := by rw [p_18]; exact fu_eq _ _ _
  have h_16 : ct_12 (v + 5) = .inl (fcI g, 20, .inl g5) := by rw [p_18]; exact (fu_ne (by omega)).trans h_11
  refine lv_aload_n hx hb dX5_forget_21 rfl (lv_at hl 0 rfl) ?_
  refine fs_get E hP (k := v) (v := .ref (fa g (v + 5))) 6 fc5 h_13 (by omega) (by decide) (wm wl_4 (i := 0) rfl) rfl dX5_forget_22 ?_
  refine lv_iconst (v := (nI 0)) hx hb dX5_forget_25 (by decide) ?_
  refine fs_v (va_runSN (As := [.ref (fa g (v + 5)), .int (nI 0)]) (rest := []) E.1 (c_X7_fillRow l g N ct_12 (v + 5) 20 g5 (nI 0) (by omega) (by omega) h_16) (lk_RX5_69 E.1.2.2.2.2 (E.2.1.2.1 _ (List.mem_of_getElem? (i := 31) rfl)) ⟨Nat.le_of_ble_eq_true rfl, Nat.le_of_ble_eq_true rfl⟩) (fpreS E hP hS) rfl rfl hl.1 rfl (lv_room (Nat.le_of_ble_eq_true rfl)) dX5_forget_26 ⟨Nat.zero_le _, Nat.zero_le _⟩) hS (fun ct_17 H locs p_26 hP hS => ?_)
  have h_18 : ct_17 v = .inr (5, [.ref (fa g (v + 1)), .int (nI 0), .int mp, .int mw, .ref (fa g (v + 3)), .ref (fa g (v + 4)), .ref (fa g (v + 5)), .ref (fa g (v + 6))]) := by rw [p_26]; exact (fu_ne (by omega)).trans h_13
  have h_19 : ct_17 (v + 3) = .inl (fcI g, 36, .inl (cpF 36 (fun _ => (nI 0)) g3)) := by rw [p_26]; exact (fu_ne (by omega)).trans h_14
  have h_20 : ct_17 (v + 4) = .inl (fcI g, 20, .inl (cpF 20 (fun _ => (nI 0)) g4)) := by rw [p_26]; exact (fu_ne (by omega)).trans h_15
  have h_21 : ct_17 (v + 5) = .inl (fcI g, 20, .inl (cpF 20 (fun _ => (nI 0)) g5)) := by rw [p_26]; exact fu_eq _ _ _
  refine fs_vret E hr hlk hP hS dX5_forget_29 ?_
  have oth : ∀ j, j = v + 1 ∨ j = v + 2 ∨ j = v + 6 → ct_17 j = ct j := fun j hj => by
    rw [p_26, fu_ne (by omega)]; rw [p_18, fu_ne (by omega)]; rw [p_10, fu_ne (by omega)]; rw [q_2, fu_ne (by omega)]
  refine ⟨⟨⟨mp, mw, h_18⟩, ⟨_, h_19, fun p b hp hb => ?_⟩, ⟨_, h_20, fun r hr => ?_⟩, ⟨_, h_21, fun r hr => ?_⟩⟩, oth _ (by omega), oth _ (by omega), oth _ (by omega), (fSame.ap (fSame.ap (fSame.ap (fSame.ap fSame.rf q_2 (by omega) (by omega)) p_10 (by omega) (by omega)) p_18 (by omega) (by omega)) p_26 (by omega) (by omega))⟩
  · rw [cpF_in (by omega)]; rfl
  · rw [cpF_in (by omega)]; rfl
  · rw [cpF_in (by omega)]; rfl

set_option maxRecDepth 100000 in
set_option maxHeartbeats 4000000 in
theorem c_X5_tally (l : Launch) (g : fG) (N : Nat) (ct : Nat → va_E) (v h q : Nat) (σ : Nat → Int32) (hNv : v + 7 ≤ N) (hN : h + 25 ≤ N) (hdis : v + 7 ≤ h ∨ h + 25 ≤ v) (hG : Good σ) (hH : HouseAt g ct h σ) (hV : SurvP g ct v σ q) (hW : WalkAt g ct v (nB σ) q) (hq : q < wM (nB σ)) (hok : okq σ q = true) : Met l yX5_tally (wsU yX5_tally cX5_tally 4 none) rX5_tally (fPre g N ct [.ref (fa g v), .ref (fa g h)]) (fQv g N (fun ct1 => SurvP g ct1 v σ (q + 1) ∧ ct1 (v + 1) = ct (v + 1) ∧ ct1 (v + 2) = ct (v + 2) ∧ ct1 (v + 6) = ct (v + 6) ∧ fSame v (v + 7) ct ct1)) 0 0 (fB g) := by
  refine fs_start (own := RX5) (lv0 := [(0, .ref (fa g v)), (1, .ref (fa g h))]) (by decide) rfl (Nat.le_of_ble_eq_true rfl) rfl ?_
  intro p e s m args below meth c ls E hr hlk hnm hP hl hS
  have hx := E.1.1
  have hb := E.1.2.1
  have hG20 := hG.k
  have hG3 := hG.n3
  have hG6 := hG.n6
  obtain ⟨hc0, ⟨f1, hc1, hf1⟩, ⟨f2, hc2, hf2⟩, ⟨f3, hc3, hf3⟩, ⟨f4, hc4, hf4⟩, hc5⟩ := id hH
  obtain ⟨⟨mp, mw, hv0⟩, ⟨g3, hv3, hg3⟩, ⟨g4, hv4, hg4⟩, ⟨g5, hv5, hg5⟩⟩ := id hV
  obtain ⟨hw1, fw, hw2, hRW0⟩ := id hW
  have hRW := hRW0 hq
  have hwok := wd_ok hG3 q
  have hM := hG.M.1
  unfold mM at hM
  have hqq : q < 100000 := by omega
  refine lv_aload_n hx hb dX5_tally_0 rfl (lv_at hl 0 rfl) ?_
  refine lv_dup hx hb dX5_tally_1 rfl ?_
  refine fs_get E hP (k := v) (v := .int (nI (cN (okq σ) q))) 1 fc5 hv0 (by omega) (by decide) (wm wl_9 (i := 14) rfl) rfl dX5_tally_2 ?_
  refine lv_iconst (v := (nI 1)) hx hb dX5_tally_5 (by decide) ?_
  refine lv_iadd hx hb dX5_tally_6 ?_
  refine fs_vi (y := (nI (cN (okq σ) q + 1))) (nI_1 _) ?_
  refine fs_put E hP hS (k := v) 1 fc5 hv0 (by omega) (by decide) (wm wl_9 (i := 14) rfl) rfl rfl rfl rfl (Nat.le_of_ble_eq_true rfl) dX5_tally_7 (fun ct_1 H locs q_2 hP hS => ?_)
  have h_3 : ct_1 h = .inr (1, [.int (nI (nB σ)), .int (σ 2), .int (nI (nT σ)), .ref (fa g (h + 1)), .ref (fa g (h + 2)), .ref (fa g (h + 3)), .ref (fa g (h + 4))]) := by rw [q_2]; exact (fu_ne (by omega)).trans hc0
  have h_4 : ct_1 (h + 1) = .inl (fcI g, 6, .inl f1) := by rw [q_2]; exact (fu_ne (by omega)).trans hc1
  have h_5 : ct_1 (h + 2) = .inl (fcI g, 6, .inl f2) := by rw [q_2]; exact (fu_ne (by omega)).trans hc2
  have h_6 : ct_1 (h + 3) = .inl (fcI g, 6, .inl f3) := by rw [q_2]; exact (fu_ne (by omega)).trans hc3
  have h_7 : ct_1 (h + 4) = .inl (fcR g, 20, .inr (.inr (.inr (.inr f4)))) := by rw [q_2]; exact (fu_ne (by omega)).trans hc4
  have h_8 : ct_1 v = .inr (5, [.ref (fa g (v + 1)), .int (nI (cN (okq σ) q + 1)), .int mp, .int mw, .ref (fa g (v + 3)), .ref (fa g (v + 4)), .ref (fa g (v + 5)), .ref (fa g (v + 6))]) := by rw [q_2]; exact fu_eq _ _ _
  have h_9 : ct_1 (v + 3) = .inl (fcI g, 36, .inl g3) := by rw [q_2]; exact (fu_ne (by omega)).trans hv3
  have h_10 : ct_1 (v + 4) = .inl (fcI g, 20, .inl g4) := by rw [q_2]; exact (fu_ne (by omega)).trans hv4
  have h_11 : ct_1 (v + 5) = .inl (fcI g, 20, .inl g5) := by rw [q_2]; exact (fu_ne (by omega)).trans hv5
  have h_12 : ct_1 (v + 1) = .inr (6, [.int (nI (nB σ)), .ref (fa g (v + 2))]) := by rw [q_2]; exact (fu_ne (by omega)).trans hw1
  have h_13 : ct_1 (v + 2) = .inl (fcI g, 6, .inl fw) := by rw [q_2]; exact (fu_ne (by omega)).trans hw2
  refine lv_iconst (v := (nI 0)) hx hb dX5_tally_10 (by decide) ?_
  refine lv_istore_n (lv' := [(2, .int (nI 0)), (0, .ref (fa g v)), (1, .ref (fa g h))]) hx hb dX5_tally_11 rfl hl (by decide) rfl (fun ls hl => ?_)
  refine fs_ind (g := g) (N := N) (St := Nat) (fun (i : Nat) (ct_14 : Nat → va_E) (ls : Array Slot) => lv_has ls 4 [(0, .ref (fa g v)), (1, .ref (fa g h)), (2, .int (nI i))] ∧ ∃ fx3 : Nat → Int32, ct_14 = fu ct_1 (v + 3) (.inl (fcI g, 36, .inl fx3)) ∧ i ≤ nB σ ∧ ∀ p b, p < nB σ → b < 6 → fx3 (6 * p + b) = nI (cN (lkq σ p b) (if p < i then q + 1 else q))) (fun i => nB σ - i) ?_ 0 _ _ ls _ ⟨lv_sub hl [1, 2, 0] rfl, ⟨_, by rw [fu_same h_9], Nat.zero_le _, fun p b hp hb => by rw [hg3 p b hp hb, if_neg (by omega)]⟩⟩ hP hS
  clear hl hP hS
  intro st ct_14 H ls locs hI hP hS ih
  obtain ⟨i, rfl⟩ : ∃ z, z = st := ⟨_, rfl⟩
  obtain ⟨hl, fx3, hct3, hI⟩ := hI
  have h_15 : ct_14 h = .inr (1, [.int (nI (nB σ)), .int (σ 2), .int (nI (nT σ)), .ref (fa g (h + 1)), .ref (fa g (h + 2)), .ref (fa g (h + 3)), .ref (fa g (h + 4))]) := by rw [hct3]; exact (fu_ne (by omega)).trans h_3
  have h_16 : ct_14 (h + 1) = .inl (fcI g, 6, .inl f1) := by rw [hct3]; exact (fu_ne (by omega)).trans h_4
  have h_17 : ct_14 (h + 2) = .inl (fcI g, 6, .inl f2) := by rw [hct3]; exact (fu_ne (by omega)).trans h_5
  have h_18 : ct_14 (h + 3) = .inl (fcI g, 6, .inl f3) := by rw [hct3]; exact (fu_ne (by omega)).trans h_6
  have h_19 : ct_14 (h + 4) = .inl (fcR g, 20, .inr (.inr (.inr (.inr f4)))) := by rw [hct3]; exact (fu_ne (by omega)).trans h_7
  have h_20 : ct_14 v = .inr (5, [.ref (fa g (v + 1)), .int (nI (cN (okq σ) q + 1)), .int mp, .int mw, .ref (fa g (v + 3)), .ref (fa g (v + 4)), .ref (fa g (v + 5)), .ref (fa g (v + 6))]) := by rw [hct3]; exact (fu_ne (by omega)).trans h_8
  have h_21 : ct_14 (v + 3) = .inl (fcI g, 36, .inl fx3) := by rw [hct3]; exact fu_eq _ _ _
  have h_22 : ct_14 (v + 4) = .inl (fcI g, 20, .inl g4) := by rw [hct3]; exact (fu_ne (by omega)).trans h_10
  have h_23 : ct_14 (v + 5) = .inl (fcI g, 20, .inl g5) := by rw [hct3]; exact (fu_ne (by omega)).trans h_11
  have h_24 : ct_14 (v + 1) = .inr (6, [.int (nI (nB σ)), .ref (fa g (v + 2))]) := by rw [hct3]; exact (fu_ne (by omega)).trans h_12
  have h_25 : ct_14 (v + 2) = .inl (fcI g, 6, .inl fw) := by rw [hct3]; exact (fu_ne (by omega)).trans h_13
  refine lv_iload_n hx hb dX5_tally_12 rfl (lv_at hl 2 rfl) ?_
  refine lv_aload_n hx hb dX5_tally_13 rfl (lv_at hl 1 rfl) ?_
  refine fs_getN E hP (k := h) (v := .int (nI (nB σ))) 0 fc1 h_15 (by omega) (by decide) (j := 7) rfl rfl dX5_tally_14 ?_
  refine lv_icmp_ge (tgt := 50) hx hb dX5_tally_17 (by decide) (fun c_17 => ?_) (fun c_17 => ?_)
  · rw [nI_leI (by omega) (by omega)] at c_17
    have hJ3 : ∀ p b, p < nB σ → b < 6 → fx3 (6 * p + b) = nI (cN (lkq σ p b) (if p < nB σ then q + 1 else q)) := fun p b hp hb => by
      have h9 := hI.2 p b hp hb
      rw [if_pos (by omega)] at h9
      rw [if_pos hp]; exact h9
    refine lv_iconst (v := (nI 0)) hx hb dX5_tally_50 (by decide) ?_
    refine lv_istore_n (lv' := [(2, .int (nI 0)), (0, .ref (fa g v)), (1, .ref (fa g h))]) hx hb dX5_tally_51 rfl hl (by decide) rfl (fun ls hl => ?_)
    refine fs_ind (g := g) (N := N) (St := Nat) (fun (i : Nat) (ct_26 : Nat → va_E) (ls : Array Slot) => lv_has ls 4 [(0, .ref (fa g v)), (1, .ref (fa g h)), (2, .int (nI i))] ∧ ∃ fx4 : Nat → Int32, ct_26 = fu ct_14 (v + 4) (.inl (fcI g, 20, .inl fx4)) ∧ i ≤ nT σ ∧ ∀ r, r < nT σ → fx4 r = nI (cN (hdq σ r) (if r < i then q + 1 else q))) (fun i => nT σ - i) ?_ 0 _ _ ls _ ⟨lv_sub hl [1, 2, 0] rfl, ⟨_, by rw [fu_same h_22], Nat.zero_le _, fun r hr => by rw [hg4 r hr, if_neg (by omega)]⟩⟩ hP hS
    clear hl hP hS
    intro st ct_26 H ls locs hI hP hS ih
    obtain ⟨i, rfl⟩ : ∃ z, z = st := ⟨_, rfl⟩
    obtain ⟨hl, fx4, hct, hI⟩ := hI
    have h_27 : ct_26 h = .inr (1, [.int (nI (nB σ)), .int (σ 2), .int (nI (nT σ)), .ref (fa g (h + 1)), .ref (fa g (h + 2)), .ref (fa g (h + 3)), .ref (fa g (h + 4))]) := by rw [hct]; exact (fu_ne (by omega)).trans h_15
    have h_28 : ct_26 (h + 1) = .inl (fcI g, 6, .inl f1) := by rw [hct]; exact (fu_ne (by omega)).trans h_16
    have h_29 : ct_26 (h + 2) = .inl (fcI g, 6, .inl f2) := by rw [hct]; exact (fu_ne (by omega)).trans h_17
    have h_30 : ct_26 (h + 3) = .inl (fcI g, 6, .inl f3) := by rw [hct]; exact (fu_ne (by omega)).trans h_18
    have h_31 : ct_26 (h + 4) = .inl (fcR g, 20, .inr (.inr (.inr (.inr f4)))) := by rw [hct]; exact (fu_ne (by omega)).trans h_19
    have h_32 : ct_26 v = .inr (5, [.ref (fa g (v + 1)), .int (nI (cN (okq σ) q + 1)), .int mp, .int mw, .ref (fa g (v + 3)), .ref (fa g (v + 4)), .ref (fa g (v + 5)), .ref (fa g (v + 6))]) := by rw [hct]; exact (fu_ne (by omega)).trans h_20
    have h_33 : ct_26 (v + 3) = .inl (fcI g, 36, .inl fx3) := by rw [hct]; exact (fu_ne (by omega)).trans h_21
    have h_34 : ct_26 (v + 4) = .inl (fcI g, 20, .inl fx4) := by rw [hct]; exact fu_eq _ _ _
    have h_35 : ct_26 (v + 5) = .inl (fcI g, 20, .inl g5) := by rw [hct]; exact (fu_ne (by omega)).trans h_23
    have h_36 : ct_26 (v + 1) = .inr (6, [.int (nI (nB σ)), .ref (fa g (v + 2))]) := by rw [hct]; exact (fu_ne (by omega)).trans h_24
    have h_37 : ct_26 (v + 2) = .inl (fcI g, 6, .inl fw) := by rw [hct]; exact (fu_ne (by omega)).trans h_25
    refine lv_iload_n hx hb dX5_tally_52 rfl (lv_at hl 2 rfl) ?_
    refine lv_aload_n hx hb dX5_tally_53 rfl (lv_at hl 1 rfl) ?_
    refine fs_getN E hP (k := h) (v := .int (nI (nT σ))) 2 fc1 h_27 (by omega) (by decide) (j := 10) rfl rfl dX5_tally_54 ?_
    refine lv_icmp_ge (tgt := 99) hx hb dX5_tally_57 (by decide) (fun c_57 => ?_) (fun c_57 => ?_)
    · rw [nI_leI (by omega) (by omega)] at c_57
      refine fs_vret E hr hlk hP hS dX5_tally_99 ?_
      have oth : ∀ j, j = v + 1 ∨ j = v + 2 ∨ j = v + 6 → ct_26 j = ct j := fun j hj => by
        rw [hct, fu_ne (by omega)]; rw [hct3, fu_ne (by omega)]; rw [q_2, fu_ne (by omega)]
      refine ⟨⟨⟨mp, mw, by rw [cN_t hok]; exact h_32⟩, ⟨fx3, h_33, fun p b hp hb => ?_⟩, ⟨fx4, h_34, fun r hr => ?_⟩, ⟨g5, h_35, fun r hr => ?_⟩⟩, oth _ (by omega), oth _ (by omega), oth _ (by omega), (fSame.ap (fSame.ap (fSame.ap fSame.rf q_2 (by omega) (by omega)) hct3 (by omega) (by omega)) hct (by omega) (by omega))⟩
      · rw [hJ3 p b hp hb, if_pos (by omega)]
      · rw [hI.2 r hr, if_pos (by omega)]
      · rw [hg5 r hr, cN_f (okq_on hok)]
    · rw [nI_leI (by omega) (by omega)] at c_57
      refine lv_aload_n hx hb dX5_tally_60 rfl (lv_at hl 1 rfl) ?_
      refine lv_iload_n hx hb dX5_tally_61 rfl (lv_at hl 2 rfl) ?_
      refine fs_pr (va_runV (As := [.int (nI i)]) (rest := []) E.1 (c_X1_rumourAt l g N ct_26 h (nT σ) (nI (nB σ)) (σ 2) f4 (nI i) (by omega) (by omega) h_27 h_31 hf4) (lk_RX5_80 E.1.2.2.2.2 ⟨Nat.le_of_ble_eq_true rfl, Nat.le_of_ble_eq_true rfl⟩) (fpreV E hP hS fc1 h_27 (by omega)) rfl rfl hl.1 rfl (lv_room (Nat.le_of_ble_eq_true rfl)) dX5_tally_62 ⟨Nat.zero_le _, Nat.zero_le _⟩) hS (fun r_62 locs p_62 hS => ?_)
      refine fs_vv (y := .ref (fa g (h + 5 + i))) (rum_in p_62 (by omega) hG20) ?_
      clear p_62
      obtain ⟨te9, kd9, a9, b9, st9, hr0, hr1⟩ := hc5 i (by omega)
      obtain ⟨rfl, rfl, rfl, rfl, rfl⟩ := hr1 (by omega)
      obtain ⟨hrA, hrB, hrC, hrD⟩ := hG.r (i := i) (by omega)
      obtain ⟨hrE, hrF, hrH⟩ := hrC.lt hG6
      have hr2 : ct_26 (h + 5 + i) = .inr (3, [.int (nI (rk σ i 0)), .int (nI (rk σ i 1)), .int (nI (rk σ i 2)), .int (nI (rk σ i 3)), .int (nI (rk σ i 4))]) := ((show fSame v (v + 7) ct ct_26 from (fSame.ap (fSame.ap (fSame.ap fSame.rf q_2 (by omega) (by omega)) hct3 (by omega) (by omega)) hct (by omega) (by omega))) _ (by omega)).trans hr0
      refine lv_astore_n (lv' := [(3, .ref (fa g (h + 5 + i))), (0, .ref (fa g v)), (1, .ref (fa g h)), (2, .int (nI i))]) hx hb dX5_tally_65 rfl hl (by decide) rfl (fun ls hl => ?_)
      refine lv_aload_n hx hb dX5_tally_66 rfl (lv_at hl 0 rfl) ?_
      refine lv_ifnull hx hb dX5_tally_67 ?_
      refine lv_aload_n hx hb dX5_tally_70 rfl (lv_at hl 0 rfl) ?_
      refine lv_aload_n hx hb dX5_tally_71 rfl (lv_at hl 1 rfl) ?_
      refine fs_get E hP (k := v) (v := .ref (fa g (v + 1))) 0 fc5 h_32 (by omega) (by decide) (wm wl_3 (i := 21) rfl) rfl dX5_tally_72 ?_
      refine fs_getN E hP (k := (v + 1)) (v := .ref (fa g (v + 2))) 1 fc6 h_36 (by omega) (by decide) (j := 17) rfl rfl dX5_tally_75 ?_
      refine fs_pi (va_runV (As := [.ref (fa g (v + 2))]) (rest := []) E.1 (c_X3_holdsIn l g N ct_26 (h + 5 + i) (v + 2) (nI (rk σ i 0)) (nI (rk σ i 4)) (nB σ) (rk σ i 1) (rk σ i 2) (rk σ i 3) fw (wd (nB σ) q) (by omega) (by omega) hG6 hrC hRW hwok hr2 h_37) (lk_RX5_84 E.1.2.2.2.2 ⟨Nat.le_of_ble_eq_true rfl, Nat.le_of_ble_eq_true rfl⟩) (fpreV E hP hS fc3 hr2 (by omega)) rfl rfl hl.1 rfl (lv_room (Nat.le_of_ble_eq_true rfl)) dX5_tally_78 ⟨Nat.zero_le _, Nat.zero_le _⟩) hS (fun r_78 locs p_78 hS => ?_)
      refine lv_if_eq (tgt := 93) hx hb dX5_tally_81 (by decide) (fun c_81 => ?_) (fun c_81 => ?_)
      · have c_81 := (fb_0 p_78).mp c_81
        refine lv_iinc (v := (nI (i + 1))) (lv' := [(2, .int (nI (i + 1))), (3, .ref (fa g (h + 5 + i))), (0, .ref (fa g v)), (1, .ref (fa g h))]) hx hb dX5_tally_93 hl (k := 3) rfl (nI_1 _) (by decide) rfl (fun ls hl => ?_)
        refine lv_goto (tgt := 52) hx hb dX5_tally_96 (by decide) ?_
        exact ih (i + 1) _ _ ls _ (by omega) ⟨lv_sub hl [2, 3, 0] rfl, ⟨_, hct, by omega, fun r hr => by
            by_cases z : r = i
            · subst z
              rw [if_pos (by omega)]
              have h9 := hI.2 r hr
              rw [if_neg (by omega)] at h9
              rw [h9, cN_f (by unfold hdq hdr; rw [Bool.eq_false_iff.mpr c_81, Bool.and_false])]
            · rw [hI.2 r hr]
              by_cases z3 : r < i
              · rw [if_pos z3, if_pos (by omega)]
              · rw [if_neg z3, if_neg (by omega)]⟩⟩ hP hS
      · have c_81 := (fb_1 p_78).mp c_81
        refine lv_aload_n hx hb dX5_tally_84 rfl (lv_at hl 1 rfl) ?_
        refine fs_get E hP (k := v) (v := .ref (fa g (v + 4))) 5 fc5 h_32 (by omega) (by decide) (wm wl_3 (i := 23) rfl) rfl dX5_tally_85 ?_
        refine lv_iload_n hx hb dX5_tally_88 rfl (lv_at hl 3 rfl) ?_
        refine lv_iconst (v := (nI 1)) hx hb dX5_tally_89 (by decide) ?_
        refine fs_v (va_runSN (As := [.ref (fa g (v + 4)), .int (nI i), .int (nI 1)]) (rest := []) E.1 (c_X7_addAt l g N ct_26 (v + 4) 20 fx4 (nI i) (nI 1) (by omega) (by omega) h_34) (lk_RX5_59 E.1.2.2.2.2 (E.2.1.2.1 _ (List.mem_of_getElem? (i := 35) rfl)) ⟨Nat.le_of_ble_eq_true rfl, Nat.le_of_ble_eq_true rfl⟩) (fpreS E hP hS) rfl rfl hl.1 rfl (lv_room (Nat.le_of_ble_eq_true rfl)) dX5_tally_90 ⟨Nat.zero_le _, Nat.zero_le _⟩) hS (fun ct_38 H locs p_90 hP hS => ?_)
        rw [stF_in (by omega) (by omega), nI_clamp (by omega)] at p_90
        have h_39 : ct_38 h = .inr (1, [.int (nI (nB σ)), .int (σ 2), .int (nI (nT σ)), .ref (fa g (h + 1)), .ref (fa g (h + 2)), .ref (fa g (h + 3)), .ref (fa g (h + 4))]) := by rw [p_90]; exact (fu_ne (by omega)).trans h_27
        have h_40 : ct_38 (h + 1) = .inl (fcI g, 6, .inl f1) := by rw [p_90]; exact (fu_ne (by omega)).trans h_28
        have h_41 : ct_38 (h + 2) = .inl (fcI g, 6, .inl f2) := by rw [p_90]; exact (fu_ne (by omega)).trans h_29
        have h_42 : ct_38 (h + 3) = .inl (fcI g, 6, .inl f3) := by rw [p_90]; exact (fu_ne (by omega)).trans h_30
        have h_43 : ct_38 (h + 4) = .inl (fcR g, 20, .inr (.inr (.inr (.inr f4)))) := by rw [p_90]; exact (fu_ne (by omega)).trans h_31
        have h_44 : ct_38 v = .inr (5, [.ref (fa g (v + 1)), .int (nI (cN (okq σ) q + 1)), .int mp, .int mw, .ref (fa g (v + 3)), .ref (fa g (v + 4)), .ref (fa g (v + 5)), .ref (fa g (v + 6))]) := by rw [p_90]; exact (fu_ne (by omega)).trans h_32
        have h_45 : ct_38 (v + 3) = .inl (fcI g, 36, .inl fx3) := by rw [p_90]; exact (fu_ne (by omega)).trans h_33
        have h_46 : ct_38 (v + 4) = .inl (fcI g, 20, .inl (upd fx4 i (fx4 i + nI 1))) := by rw [p_90]; exact fu_eq _ _ _
        have h_47 : ct_38 (v + 5) = .inl (fcI g, 20, .inl g5) := by rw [p_90]; exact (fu_ne (by omega)).trans h_35
        have h_48 : ct_38 (v + 1) = .inr (6, [.int (nI (nB σ)), .ref (fa g (v + 2))]) := by rw [p_90]; exact (fu_ne (by omega)).trans h_36
        have h_49 : ct_38 (v + 2) = .inl (fcI g, 6, .inl fw) := by rw [p_90]; exact (fu_ne (by omega)).trans h_37
        have h_50 : ct_38 (h + 5 + i) = .inr (3, [.int (nI (rk σ i 0)), .int (nI (rk σ i 1)), .int (nI (rk σ i 2)), .int (nI (rk σ i 3)), .int (nI (rk σ i 4))]) := by rw [p_90]; exact (fu_ne (by omega)).trans hr2
        refine lv_iinc (v := (nI (i + 1))) (lv' := [(2, .int (nI (i + 1))), (3, .ref (fa g (h + 5 + i))), (0, .ref (fa g v)), (1, .ref (fa g h))]) hx hb dX5_tally_93 hl (k := 3) rfl (nI_1 _) (by decide) rfl (fun ls hl => ?_)
        refine lv_goto (tgt := 52) hx hb dX5_tally_96 (by decide) ?_
        exact ih (i + 1) _ _ ls _ (by omega) ⟨lv_sub hl [2, 3, 0] rfl, ⟨_, by rw [p_90, hct, fu_fu], by omega, fun r hr => by
            by_cases z : r = i
            · subst z
              rw [if_pos (by omega), upd_eq]
              have h9 := hI.2 r hr
              rw [if_neg (by omega)] at h9
              rw [h9, cN_t (by unfold hdq hdr; rw [hok, c_81]; rfl)]
              exact nI_1 _
            · rw [upd_ne z, hI.2 r hr]
              by_cases z3 : r < i
              · rw [if_pos z3, if_pos (by omega)]
              · rw [if_neg z3, if_neg (by omega)]⟩⟩ hP hS
  · rw [nI_leI (by omega) (by omega)] at c_17
    refine lv_aload_n hx hb dX5_tally_20 rfl (lv_at hl 0 rfl) ?_
    refine fs_get E hP (k := v) (v := .ref (fa g (v + 3))) 4 fc5 h_20 (by omega) (by decide) (wm wl_3 (i := 22) rfl) rfl dX5_tally_21 ?_
    refine lv_iload_n hx hb dX5_tally_24 rfl (lv_at hl 2 rfl) ?_
    refine lv_bipush (v := (nI 6)) hx hb dX5_tally_25 (by decide) ?_
    refine lv_imul hx hb dX5_tally_27 ?_
    refine fs_vi (y := (nI (i * 6))) (pk_mul i 6) ?_
    refine lv_aload_n hx hb dX5_tally_28 rfl (lv_at hl 0 rfl) ?_
    refine fs_get E hP (k := v) (v := .ref (fa g (v + 1))) 0 fc5 h_20 (by omega) (by decide) (wm wl_3 (i := 21) rfl) rfl dX5_tally_29 ?_
    refine fs_getN E hP (k := (v + 1)) (v := .ref (fa g (v + 2))) 1 fc6 h_24 (by omega) (by decide) (j := 17) rfl rfl dX5_tally_32 ?_
    refine lv_iload_n hx hb dX5_tally_35 rfl (lv_at hl 2 rfl) ?_
    refine fs_pi (va_runSN (As := [.ref (fa g (v + 2)), .int (nI i)]) (rest := [.int (nI (i * 6)), .ref (fa g (v + 3))]) E.1 (c_X7_at l g N ct_14 (v + 2) 6 fw (nI i) (by omega) (by omega) h_25) (lk_RX5_73 E.1.2.2.2.2 (E.2.1.2.1 _ (List.mem_of_getElem? (i := 34) rfl)) ⟨Nat.le_of_ble_eq_true rfl, Nat.le_of_ble_eq_true rfl⟩) (fpreS E hP hS) rfl rfl hl.1 rfl (lv_room (Nat.le_of_ble_eq_true rfl)) dX5_tally_36 ⟨Nat.zero_le _, Nat.zero_le _⟩) hS (fun r_36 locs p_36 hS => ?_)
    have hwi := hwok i (by omega)
    refine fs_vi (y := (nI (wd (nB σ) q i))) (p_36.trans ((atF_in (by omega) (by omega)).trans (hRW.in (by omega) hG6))) ?_
    refine lv_iadd hx hb dX5_tally_39 ?_
    refine fs_vi (y := (nI (i * 6 + wd (nB σ) q i))) (nI_add _ _) ?_
    refine lv_iconst (v := (nI 1)) hx hb dX5_tally_40 (by decide) ?_
    refine fs_v (va_runSN (As := [.ref (fa g (v + 3)), .int (nI (i * 6 + wd (nB σ) q i)), .int (nI 1)]) (rest := []) E.1 (c_X7_addAt l g N ct_14 (v + 3) 36 fx3 (nI (i * 6 + wd (nB σ) q i)) (nI 1) (by omega) (by omega) h_21) (lk_RX5_59 E.1.2.2.2.2 (E.2.1.2.1 _ (List.mem_of_getElem? (i := 35) rfl)) ⟨Nat.le_of_ble_eq_true rfl, Nat.le_of_ble_eq_true rfl⟩) (fpreS E hP hS) rfl rfl hl.1 rfl (lv_room (Nat.le_of_ble_eq_true rfl)) dX5_tally_41 ⟨Nat.zero_le _, Nat.zero_le _⟩) hS (fun ct_51 H locs p_41 hP hS => ?_)
    rw [stF_in (by omega) (by omega), nI_clamp (by omega)] at p_41
    have h_52 : ct_51 h = .inr (1, [.int (nI (nB σ)), .int (σ 2), .int (nI (nT σ)), .ref (fa g (h + 1)), .ref (fa g (h + 2)), .ref (fa g (h + 3)), .ref (fa g (h + 4))]) := by rw [p_41]; exact (fu_ne (by omega)).trans h_15
    have h_53 : ct_51 (h + 1) = .inl (fcI g, 6, .inl f1) := by rw [p_41]; exact (fu_ne (by omega)).trans h_16
    have h_54 : ct_51 (h + 2) = .inl (fcI g, 6, .inl f2) := by rw [p_41]; exact (fu_ne (by omega)).trans h_17
    have h_55 : ct_51 (h + 3) = .inl (fcI g, 6, .inl f3) := by rw [p_41]; exact (fu_ne (by omega)).trans h_18
    have h_56 : ct_51 (h + 4) = .inl (fcR g, 20, .inr (.inr (.inr (.inr f4)))) := by rw [p_41]; exact (fu_ne (by omega)).trans h_19
    have h_57 : ct_51 v = .inr (5, [.ref (fa g (v + 1)), .int (nI (cN (okq σ) q + 1)), .int mp, .int mw, .ref (fa g (v + 3)), .ref (fa g (v + 4)), .ref (fa g (v + 5)), .ref (fa g (v + 6))]) := by rw [p_41]; exact (fu_ne (by omega)).trans h_20
    have h_58 : ct_51 (v + 3) = .inl (fcI g, 36, .inl (upd fx3 (i * 6 + wd (nB σ) q i) (fx3 (i * 6 + wd (nB σ) q i) + nI 1))) := by rw [p_41]; exact fu_eq _ _ _
    have h_59 : ct_51 (v + 4) = .inl (fcI g, 20, .inl g4) := by rw [p_41]; exact (fu_ne (by omega)).trans h_22
    have h_60 : ct_51 (v + 5) = .inl (fcI g, 20, .inl g5) := by rw [p_41]; exact (fu_ne (by omega)).trans h_23
    have h_61 : ct_51 (v + 1) = .inr (6, [.int (nI (nB σ)), .ref (fa g (v + 2))]) := by rw [p_41]; exact (fu_ne (by omega)).trans h_24
    have h_62 : ct_51 (v + 2) = .inl (fcI g, 6, .inl fw) := by rw [p_41]; exact (fu_ne (by omega)).trans h_25
    refine lv_iinc (v := (nI (i + 1))) (lv' := [(2, .int (nI (i + 1))), (0, .ref (fa g v)), (1, .ref (fa g h))]) hx hb dX5_tally_44 hl (k := 2) rfl (nI_1 _) (by decide) rfl (fun ls hl => ?_)
    refine lv_goto (tgt := 12) hx hb dX5_tally_47 (by decide) ?_
    exact ih (i + 1) _ _ ls _ (by omega) ⟨lv_sub hl [1, 2, 0] rfl, ⟨_, by rw [p_41, hct3, fu_fu], by omega, fun p b hp hb => by
        by_cases z : p = i
        · subst z
          rw [if_pos (by omega)]
          have h9 := hI.2 p b hp hb
          rw [if_neg (by omega)] at h9
          by_cases z2 : wd (nB σ) q p = b
          · rw [show 6 * p + b = p * 6 + wd (nB σ) q p by omega, upd_eq, show p * 6 + wd (nB σ) q p = 6 * p + b by omega, h9, cN_t (by unfold lkq; rw [hok, decide_eq_true z2]; rfl)]
            exact nI_1 _
          · rw [upd_ne (by omega), h9, cN_f (by unfold lkq; rw [decide_eq_false z2, Bool.and_false])]
        · rw [upd_ne (by omega), hI.2 p b hp hb]
          by_cases z3 : p < i
          · rw [if_pos z3, if_pos (by omega)]
          · rw [if_neg z3, if_neg (by omega)]⟩⟩ hP hS
