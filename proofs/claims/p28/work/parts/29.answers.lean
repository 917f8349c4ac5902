/-! questions about all possible worlds -/
def Wn (σ : Nat → Int32) : Nat := cN (okq σ) (mM σ)
def LKn (σ : Nat → Int32) (p b : Nat) : Nat := cN (lkq σ p b) (mM σ)
def HDn (σ : Nat → Int32) (r : Nat) : Nat := cN (hdq σ r) (mM σ)
def ONn (σ : Nat → Int32) (r : Nat) : Nat := cN (onq σ r) (mM σ)
theorem cN_and_le (a b : Nat → Bool) (m : Nat) : cN (fun q => a q && b q) m ≤ cN a m := by
  induction m with
  | zero => exact Nat.le_refl 0
  | succ m ih =>
    rw [cN_succ, cN_succ]
    cases ha : a m <;> cases hb : b m <;> simp [ha, hb] <;> omega
theorem cN_and_eq {a b : Nat → Bool} {m : Nat} (h : cN (fun q => a q && b q) m = cN a m) : ∀ q, q < m → a q = true → b q = true := by
  induction m with
  | zero => intro q hq; omega
  | succ m ih =>
    intro q hq haq
    have hle := cN_and_le a b m
    rw [cN_succ, cN_succ] at h
    have key : cN (fun q => a q && b q) m = cN a m ∧ (a m = true → b m = true) := by
      cases ha : a m <;> cases hb : b m <;> simp [ha, hb] at h ⊢ <;> omega
    by_cases e : q = m
    · subst e; exact key.2 haq
    · exact ih key.1 q (by omega) haq
theorem cN_ex {a : Nat → Bool} {m : Nat} (h : 0 < cN a m) : ∃ q, q < m ∧ a q = true := by
  induction m with
  | zero => exact absurd h (Nat.lt_irrefl 0)
  | succ m ih =>
    by_cases e : a m = true
    · exact ⟨m, by omega, e⟩
    · rw [cN_f (Bool.eq_false_iff.mpr e)] at h
      obtain ⟨q, h1, h2⟩ := ih h
      exact ⟨q, by omega, h2⟩
theorem HD_le (σ : Nat → Int32) (r : Nat) : HDn σ r ≤ Wn σ := cN_and_le _ _ _
theorem Wn_le {σ : Nat → Int32} (h : Good σ) : Wn σ ≤ 15625 := Nat.le_trans (cN_le _ _) h.M.1
theorem LK_le {σ : Nat → Int32} (h : Good σ) (p b : Nat) : LKn σ p b ≤ 15625 := Nat.le_trans (cN_le _ _) h.M.1
theorem HD_le2 {σ : Nat → Int32} (h : Good σ) (r : Nat) : HDn σ r ≤ 15625 := Nat.le_trans (cN_le _ _) h.M.1
theorem ON_le {σ : Nat → Int32} (h : Good σ) (r : Nat) : ONn σ r ≤ 15625 := Nat.le_trans (cN_le _ _) h.M.1
/-- the last of the first m with p, or -6 -/
def fnd (p : Nat → Bool) : Nat → Int32
  | 0 => -6
  | m + 1 => if p m = true then nI m else fnd p m
theorem fnd_none {p : Nat → Bool} {m : Nat} (h : ∀ b, b < m → p b = false) : fnd p m = -6 := by
  induction m with
  | zero => rfl
  | succ m ih => unfold fnd; rw [h m (by omega)]; exact ih (fun b hb => h b (by omega))
theorem fnd_one {p : Nat → Bool} {m b : Nat} (hb : b < m) (h : p b = true) (hu : ∀ c, c < m → p c = true → c = b) : fnd p m = nI b := by
  induction m with
  | zero => omega
  | succ m ih =>
    unfold fnd
    by_cases e : p m = true
    · rw [if_pos e, hu m (by omega) e]
    · rw [if_neg e]
      have hbm : b ≠ m := fun z => e (z ▸ h)
      exact ih (by omega) (fun c hc hp => hu c (by omega) hp)
/-- whether a person certainly looks at a box -/
def crt (σ : Nat → Int32) (p b : Nat) : Bool := decide (0 < Wn σ ∧ LKn σ p b = Wn σ)
theorem crt_one {σ : Nat → Int32} {p b c : Nat} (h1 : crt σ p b = true) (h2 : crt σ p c = true) : c = b := by
  obtain ⟨a1, a2⟩ := of_decide_eq_true h1
  obtain ⟨b1, b2⟩ := of_decide_eq_true h2
  obtain ⟨q, hq, hok⟩ := cN_ex a1
  have e1 := of_decide_eq_true (cN_and_eq (a := okq σ) (b := fun q => decide (wd (nB σ) q p = b)) a2 q hq hok)
  have e2 := of_decide_eq_true (cN_and_eq (a := okq σ) (b := fun q => decide (wd (nB σ) q p = c)) b2 q hq hok)
  omega
theorem crt_lt {σ : Nat → Int32} (hG : Good σ) {p b : Nat} (hp : p < nB σ) (h1 : crt σ p b = true) : b < nB σ := by
  obtain ⟨a1, a2⟩ := of_decide_eq_true h1
  obtain ⟨q, hq, hok⟩ := cN_ex a1
  have e1 := of_decide_eq_true (cN_and_eq (a := okq σ) (b := fun q => decide (wd (nB σ) q p = b)) a2 q hq hok)
  have := wd_ok hG.n3 q p hp
  omega
def crF (σ : Nat → Int32) (p : Nat) : Int32 := fnd (crt σ p) (nB σ)
theorem crF_hit {σ : Nat → Int32} (hG : Good σ) {p b : Nat} (hp : p < nB σ) (h : crt σ p b = true) : crF σ p = nI b := fnd_one (crt_lt hG hp h) h (fun _ _ hc => crt_one h hc)
theorem crF_none {σ : Nat → Int32} {p : Nat} (h : ∀ b, b < nB σ → crt σ p b = false) : crF σ p = -6 := fnd_none h
/-- the best of the first m -/
def optI : Option Nat → Int32
  | none => -6
  | some b => nI b
def bst (op : Nat → Bool) (lt : Nat → Nat → Bool) : Nat → Option Nat
  | 0 => none
  | m + 1 => if op m = true then (match bst op lt m with
    | none => some m
    | some b => if lt m b = true then some m else some b) else bst op lt m
theorem bst_lt {op : Nat → Bool} {lt : Nat → Nat → Bool} : ∀ {m b : Nat}, bst op lt m = some b → b < m ∧ op b = true := by
  intro m
  induction m with
  | zero => intro b h; cases h
  | succ m ih =>
    intro b h
    unfold bst at h
    by_cases e : op m = true
    · rw [if_pos e] at h
      cases hb : bst op lt m with
      | none => rw [hb] at h; cases h; exact ⟨by omega, e⟩
      | some c =>
        rw [hb] at h
        dsimp only at h
        by_cases e2 : lt m c = true
        · rw [if_pos e2] at h; cases h; exact ⟨by omega, e⟩
        · rw [if_neg e2] at h; cases h
          have := ih hb
          exact ⟨by omega, this.2⟩
    · rw [if_neg e] at h
      have := ih h
      exact ⟨by omega, this.2⟩
theorem bst_no {op : Nat → Bool} {lt : Nat → Nat → Bool} {m : Nat} (h : op m = false) : bst op lt (m + 1) = bst op lt m := by
  rw [bst, h]; rfl
theorem bst_new {op : Nat → Bool} {lt : Nat → Nat → Bool} {m : Nat} (h : op m = true) (hn : bst op lt m = none) : bst op lt (m + 1) = some m := by
  rw [bst, if_pos h, hn]
theorem bst_yes {op : Nat → Bool} {lt : Nat → Nat → Bool} {m b : Nat} (h : op m = true) (hn : bst op lt m = some b) (hl : lt m b = true) : bst op lt (m + 1) = some m := by
  rw [bst, if_pos h, hn]; dsimp only; rw [if_pos hl]
theorem bst_old {op : Nat → Bool} {lt : Nat → Nat → Bool} {m b : Nat} (h : op m = true) (hn : bst op lt m = some b) (hl : lt m b = false) : bst op lt (m + 1) = some b := by
  rw [bst, if_pos h, hn]; dsimp only; rw [hl]; rfl
def WOn (σ : Nat → Int32) (r : Nat) : Nat := max (HDn σ r) (Wn σ - HDn σ r)
theorem WO_if {a b : Nat} (ha : a < 2147483648) (hb : b < 2147483648) : (if nI a < nI b then nI b else nI a) = nI (max a b) := by
  by_cases z : a < b
  · rw [if_pos ((nI_ltI ha hb).mpr z), Nat.max_eq_right (by omega)]
  · rw [if_neg (fun y => z ((nI_ltI ha hb).mp y)), Nat.max_eq_left (by omega)]
def opn (σ : Nat → Int32) (r : Nat) : Bool := decide (rk σ r 4 = 0)
def shF (σ : Nat → Int32) : Option Nat := bst (opn σ) (fun a b => decide (WOn σ a < WOn σ b)) (nT σ)
def blF (σ : Nat → Int32) : Option Nat := bst (fun r => !opn σ r) (fun a b => decide (ONn σ b < ONn σ a)) (nT σ)

set_option maxRecDepth 100000 in
set_option maxHeartbeats 4000000 in
theorem c_X5_lookingAt (l : Launch) (g : fG) (N : Nat) (ct : Nat → va_E) (v : Nat) (σ : Nat → Int32) (p0 b0 : Nat) (hp : p0 < nB σ) (hb0 : b0 < 6) (hNv : v + 7 ≤ N) (hG : Good σ) (hV : SurvP g ct v σ (mM σ)) : Met l yX5_lookingAt (wsU yX5_lookingAt cX5_lookingAt 3 (some .int)) rX5_lookingAt (fPre g N ct [.ref (fa g v), .int (nI p0), .int (nI b0)]) (fQpi (fun r => r = nI (LKn σ p0 b0))) 0 0 (fB g) := by
  refine fs_start (own := RX5) (lv0 := [(0, .ref (fa g v)), (1, .int (nI p0)), (2, .int (nI b0))]) (by decide) rfl (Nat.le_of_ble_eq_true rfl) rfl ?_
  intro p e s m args below meth c ls E hr hlk hnm hP hl hS
  have hx := E.1.1
  have hb := E.1.2.1
  have hG20 := hG.k
  have hG3 := hG.n3
  have hG6 := hG.n6
  obtain ⟨⟨mp, mw, hv0⟩, ⟨g3, hv3, hg3⟩, ⟨g4, hv4, hg4⟩, ⟨g5, hv5, hg5⟩⟩ := id hV
  have hWn := Wn_le hG
  
  refine lv_aload_n hx hb dX5_lookingAt_0 rfl (lv_at hl 0 rfl) ?_
  refine fs_get E hP (k := v) (v := .ref (fa g (v + 3))) 4 fc5 hv0 (by omega) (by decide) (wm wl_3 (i := 22) rfl) rfl dX5_lookingAt_1 ?_
  refine lv_iload_n hx hb dX5_lookingAt_4 rfl (lv_at hl 1 rfl) ?_
  refine lv_bipush (v := (nI 6)) hx hb dX5_lookingAt_5 (by decide) ?_
  refine lv_imul hx hb dX5_lookingAt_7 ?_
  refine fs_vi (y := (nI (p0 * 6))) (pk_mul _ _) ?_
  refine lv_iload_n hx hb dX5_lookingAt_8 rfl (lv_at hl 2 rfl) ?_
  refine lv_iadd hx hb dX5_lookingAt_9 ?_
  refine fs_vi (y := (nI (p0 * 6 + b0))) (nI_add _ _) ?_
  refine fs_pi (va_runSN (As := [.ref (fa g (v + 3)), .int (nI (p0 * 6 + b0))]) (rest := []) E.1 (c_X7_at l g N ct (v + 3) 36 g3 (nI (p0 * 6 + b0)) (by omega) (by omega) hv3) (lk_RX5_73 E.1.2.2.2.2 (E.2.1.2.1 _ (List.mem_of_getElem? (i := 34) rfl)) ⟨Nat.le_of_ble_eq_true rfl, Nat.le_of_ble_eq_true rfl⟩) (fpreS E hP hS) rfl rfl hl.1 rfl (lv_room (Nat.le_of_ble_eq_true rfl)) dX5_lookingAt_10 ⟨Nat.zero_le _, Nat.zero_le _⟩) hS (fun r_10 locs p_10 hS => ?_)
  refine fs_vi (y := (nI (LKn σ p0 b0))) (p_10.trans ((atF_in (by omega) (by omega)).trans (by rw [show p0 * 6 + b0 = 6 * p0 + b0 by omega, hg3 p0 b0 hp hb0]; rfl))) ?_
  refine fs_piret E hr hlk hS dX5_lookingAt_13 ?_
  rfl

set_option maxRecDepth 100000 in
set_option maxHeartbeats 4000000 in
theorem c_X5_isCertain (l : Launch) (g : fG) (N : Nat) (ct : Nat → va_E) (v : Nat) (σ : Nat → Int32) (c0 : Nat) (hc0 : c0 < 100000) (hNv : v + 7 ≤ N) (hG : Good σ) (hV : SurvP g ct v σ (mM σ)) : Met l yX5_isCertain (wsU yX5_isCertain cX5_isCertain 2 (some .boolean)) rX5_isCertain (fPre g N ct [.ref (fa g v), .int (nI c0)]) (fQpi (fun r => r = bI (0 < Wn σ ∧ c0 = Wn σ))) 0 0 (fB g) := by
  refine fs_start (own := RX5) (lv0 := [(0, .ref (fa g v)), (1, .int (nI c0))]) (by decide) rfl (Nat.le_of_ble_eq_true rfl) rfl ?_
  intro p e s m args below meth c ls E hr hlk hnm hP hl hS
  have hx := E.1.1
  have hb := E.1.2.1
  have hG20 := hG.k
  have hG3 := hG.n3
  have hG6 := hG.n6
  obtain ⟨⟨mp, mw, hv0⟩, ⟨g3, hv3, hg3⟩, ⟨g4, hv4, hg4⟩, ⟨g5, hv5, hg5⟩⟩ := id hV
  have hWn := Wn_le hG
  
  refine lv_aload_n hx hb dX5_isCertain_0 rfl (lv_at hl 0 rfl) ?_
  refine fs_get E hP (k := v) (v := .int (nI (Wn σ))) 1 fc5 hv0 (by omega) (by decide) (wm wl_9 (i := 14) rfl) rfl dX5_isCertain_1 ?_
  refine lv_if_le (tgt := 19) hx hb dX5_isCertain_4 (by decide) (fun c_4 => ?_) (fun c_4 => ?_)
  · rw [fz_leN (by omega)] at c_4
    refine lv_iconst (v := (nI 0)) hx hb dX5_isCertain_19 (by decide) ?_
    refine fs_pzret E hr rfl hlk hS dX5_isCertain_20 ?_
    exact bI_f (by omega)
  · rw [fz_leN (by omega)] at c_4
    refine lv_iload_n hx hb dX5_isCertain_7 rfl (lv_at hl 1 rfl) ?_
    refine lv_aload_n hx hb dX5_isCertain_8 rfl (lv_at hl 0 rfl) ?_
    refine fs_get E hP (k := v) (v := .int (nI (Wn σ))) 1 fc5 hv0 (by omega) (by decide) (wm wl_9 (i := 14) rfl) rfl dX5_isCertain_9 ?_
    refine lv_icmp_ne (tgt := 19) hx hb dX5_isCertain_12 (by decide) (fun c_12 => ?_) (fun c_12 => ?_)
    · rw [nI_eq (by omega) (by omega)] at c_12
      refine lv_iconst (v := (nI 0)) hx hb dX5_isCertain_19 (by decide) ?_
      refine fs_pzret E hr rfl hlk hS dX5_isCertain_20 ?_
      exact bI_f (by omega)
    · rw [nI_eq (by omega) (by omega)] at c_12
      refine lv_iconst (v := (nI 1)) hx hb dX5_isCertain_15 (by decide) ?_
      refine lv_goto (tgt := 20) hx hb dX5_isCertain_16 (by decide) ?_
      refine fs_pzret E hr rfl hlk hS dX5_isCertain_20 ?_
      exact bI_t (by omega)

set_option maxRecDepth 100000 in
set_option maxHeartbeats 4000000 in
theorem c_X5_isRuledOut (l : Launch) (g : fG) (N : Nat) (ct : Nat → va_E) (v : Nat) (σ : Nat → Int32) (c0 : Nat) (hc0 : c0 < 100000) (hNv : v + 7 ≤ N) (hG : Good σ) (hV : SurvP g ct v σ (mM σ)) : Met l yX5_isRuledOut (wsU yX5_isRuledOut cX5_isRuledOut 2 (some .boolean)) rX5_isRuledOut (fPre g N ct [.ref (fa g v), .int (nI c0)]) (fQpi (fun r => r = bI (0 < Wn σ ∧ c0 = 0))) 0 0 (fB g) := by
  refine fs_start (own := RX5) (lv0 := [(0, .ref (fa g v)), (1, .int (nI c0))]) (by decide) rfl (Nat.le_of_ble_eq_true rfl) rfl ?_
  intro p e s m args below meth c ls E hr hlk hnm hP hl hS
  have hx := E.1.1
  have hb := E.1.2.1
  have hG20 := hG.k
  have hG3 := hG.n3
  have hG6 := hG.n6
  obtain ⟨⟨mp, mw, hv0⟩, ⟨g3, hv3, hg3⟩, ⟨g4, hv4, hg4⟩, ⟨g5, hv5, hg5⟩⟩ := id hV
  have hWn := Wn_le hG
  
  refine lv_aload_n hx hb dX5_isRuledOut_0 rfl (lv_at hl 0 rfl) ?_
  refine fs_get E hP (k := v) (v := .int (nI (Wn σ))) 1 fc5 hv0 (by omega) (by decide) (wm wl_9 (i := 14) rfl) rfl dX5_isRuledOut_1 ?_
  refine lv_if_le (tgt := 15) hx hb dX5_isRuledOut_4 (by decide) (fun c_4 => ?_) (fun c_4 => ?_)
  · rw [fz_leN (by omega)] at c_4
    refine lv_iconst (v := (nI 0)) hx hb dX5_isRuledOut_15 (by decide) ?_
    refine fs_pzret E hr rfl hlk hS dX5_isRuledOut_16 ?_
    exact bI_f (by omega)
  · rw [fz_leN (by omega)] at c_4
    refine lv_iload_n hx hb dX5_isRuledOut_7 rfl (lv_at hl 1 rfl) ?_
    refine lv_if_ne (tgt := 15) hx hb dX5_isRuledOut_8 (by decide) (fun c_8 => ?_) (fun c_8 => ?_)
    · rw [fz_eqN (by omega)] at c_8
      refine lv_iconst (v := (nI 0)) hx hb dX5_isRuledOut_15 (by decide) ?_
      refine fs_pzret E hr rfl hlk hS dX5_isRuledOut_16 ?_
      exact bI_f (by omega)
    · rw [fz_eqN (by omega)] at c_8
      refine lv_iconst (v := (nI 1)) hx hb dX5_isRuledOut_11 (by decide) ?_
      refine lv_goto (tgt := 16) hx hb dX5_isRuledOut_12 (by decide) ?_
      refine fs_pzret E hr rfl hlk hS dX5_isRuledOut_16 ?_
      exact bI_t (by omega)

set_option maxRecDepth 100000 in
set_option maxHeartbeats 4000000 in
theorem c_X5_certainBox (l : Launch) (g : fG) (N : Nat) (ct : Nat → va_E) (v : Nat) (σ : Nat → Int32) (p0 : Nat) (hp : p0 < nB σ) (hNv : v + 7 ≤ N) (hG : Good σ) (hV : SurvP g ct v σ (mM σ)) : Met l yX5_certainBox (wsU yX5_certainBox cX5_certainBox 3 (some .int)) rX5_certainBox (fPre g N ct [.ref (fa g v), .int (nI p0)]) (fQpi (fun r => r = crF σ p0)) 0 0 (fB g) := by
  refine fs_start (own := RX5) (lv0 := [(0, .ref (fa g v)), (1, .int (nI p0))]) (by decide) rfl (Nat.le_of_ble_eq_true rfl) rfl ?_
  intro p e s m args below meth c ls E hr hlk hnm hP hl hS
  have hx := E.1.1
  have hb := E.1.2.1
  have hG20 := hG.k
  have hG3 := hG.n3
  have hG6 := hG.n6
  obtain ⟨⟨mp, mw, hv0⟩, ⟨g3, hv3, hg3⟩, ⟨g4, hv4, hg4⟩, ⟨g5, hv5, hg5⟩⟩ := id hV
  have hWn := Wn_le hG
  
  refine lv_iconst (v := (nI 0)) hx hb dX5_certainBox_0 (by decide) ?_
  refine lv_istore_n (lv' := [(2, .int (nI 0)), (0, .ref (fa g v)), (1, .int (nI p0))]) hx hb dX5_certainBox_1 rfl hl (by decide) rfl (fun ls hl => ?_)
  refine fs_indP (g := g) (St := Nat) (fun (bx : Nat) (ls : Array Slot) => lv_has ls 3 [(0, .ref (fa g v)), (1, .int (nI p0)), (2, .int (nI bx))] ∧ bx ≤ 6 ∧ ∀ b, b < bx → crt σ p0 b = false) (fun (bx : Nat) => 6 - bx) ?_ 0 ls _ ⟨lv_sub hl [1, 2, 0] rfl, Nat.zero_le _, fun b hb => absurd hb (by omega)⟩ hS
  clear hl hS
  intro st ls locs hI hS ih
  obtain ⟨bx, rfl⟩ : ∃ z, z = st := ⟨_, rfl⟩
  obtain ⟨hl, hI⟩ := hI
  have hI1 := hI.1
  refine lv_iload_n hx hb dX5_certainBox_2 rfl (lv_at hl 2 rfl) ?_
  refine lv_bipush (v := (nI 6)) hx hb dX5_certainBox_3 (by decide) ?_
  refine lv_icmp_ge (tgt := 29) hx hb dX5_certainBox_5 (by decide) (fun c_5 => ?_) (fun c_5 => ?_)
  · rw [nI_leI (by omega) (by omega)] at c_5
    refine lv_bipush (v := (-6)) hx hb dX5_certainBox_29 (by decide) ?_
    refine fs_piret E hr hlk hS dX5_certainBox_31 ?_
    exact (crF_none (fun b hb => hI.2 b (by omega))).symm
  · rw [nI_leI (by omega) (by omega)] at c_5
    refine lv_aload_n hx hb dX5_certainBox_8 rfl (lv_at hl 0 rfl) ?_
    refine lv_aload_n hx hb dX5_certainBox_9 rfl (lv_at hl 0 rfl) ?_
    refine lv_iload_n hx hb dX5_certainBox_10 rfl (lv_at hl 1 rfl) ?_
    refine lv_iload_n hx hb dX5_certainBox_11 rfl (lv_at hl 2 rfl) ?_
    refine fs_pi (va_runV (As := [.int (nI p0), .int (nI bx)]) (rest := [.ref (fa g v)]) E.1 (c_X5_lookingAt l g N ct v σ p0 bx (by omega) (by omega) hNv hG hV) (lk_RX5_88 E.1.2.2.2.2 ⟨Nat.le_of_ble_eq_true rfl, Nat.le_of_ble_eq_true rfl⟩) (fpreV E hP hS fc5 hv0 (by omega)) rfl rfl hl.1 rfl (lv_room (Nat.le_of_ble_eq_true rfl)) dX5_certainBox_12 ⟨Nat.zero_le _, Nat.zero_le _⟩) hS (fun r_12 locs p_12 hS => ?_)
    refine fs_vi (y := (nI (LKn σ p0 bx))) p_12 ?_
    refine fs_pi (va_runV (As := [.int (nI (LKn σ p0 bx))]) (rest := []) E.1 (c_X5_isCertain l g N ct v σ (LKn σ p0 bx) (by have := LK_le hG p0 bx; omega) hNv hG hV) (lk_RX5_92 E.1.2.2.2.2 ⟨Nat.le_of_ble_eq_true rfl, Nat.le_of_ble_eq_true rfl⟩) (fpreV E hP hS fc5 hv0 (by omega)) rfl rfl hl.1 rfl (lv_room (Nat.le_of_ble_eq_true rfl)) dX5_certainBox_15 ⟨Nat.zero_le _, Nat.zero_le _⟩) hS (fun r_15 locs p_15 hS => ?_)
    refine lv_if_eq (tgt := 23) hx hb dX5_certainBox_18 (by decide) (fun c_18 => ?_) (fun c_18 => ?_)
    · have c_18 := (fb_0 p_15).mp c_18
      refine lv_iinc (v := (nI (bx + 1))) (lv' := [(2, .int (nI (bx + 1))), (0, .ref (fa g v)), (1, .int (nI p0))]) hx hb dX5_certainBox_23 hl (k := 2) rfl (nI_1 _) (by decide) rfl (fun ls hl => ?_)
      refine lv_goto (tgt := 2) hx hb dX5_certainBox_26 (by decide) ?_
      exact ih (bx + 1) ls _ (by (try dsimp only); omega) ⟨lv_sub hl [1, 2, 0] rfl, by omega, fun b hb => (Nat.lt_or_ge b bx).elim (fun z => hI.2 b z) (fun z => by rw [show b = bx by omega]; exact decide_eq_false c_18)⟩ hS
    · have c_18 := (fb_1 p_15).mp c_18
      refine lv_iload_n hx hb dX5_certainBox_21 rfl (lv_at hl 2 rfl) ?_
      refine fs_piret E hr hlk hS dX5_certainBox_22 ?_
      exact (crF_hit hG hp (decide_eq_true c_18)).symm

set_option maxRecDepth 100000 in
set_option maxHeartbeats 4000000 in
theorem c_X5_certainPersons (l : Launch) (g : fG) (N : Nat) (ct : Nat → va_E) (v : Nat) (σ : Nat → Int32) (hNv : v + 7 ≤ N) (hG : Good σ) (hV : SurvP g ct v σ (mM σ)) : Met l yX5_certainPersons (wsU yX5_certainPersons cX5_certainPersons 4 (some .int)) rX5_certainPersons (fPre g N ct [.ref (fa g v), .int (nI (nB σ))]) (fQpi (fun r => r = nI (cN (fun p => decide (¬ crF σ p = -6)) (nB σ)))) 0 0 (fB g) := by
  refine fs_start (own := RX5) (lv0 := [(0, .ref (fa g v)), (1, .int (nI (nB σ)))]) (by decide) rfl (Nat.le_of_ble_eq_true rfl) rfl ?_
  intro p e s m args below meth c ls E hr hlk hnm hP hl hS
  have hx := E.1.1
  have hb := E.1.2.1
  have hG20 := hG.k
  have hG3 := hG.n3
  have hG6 := hG.n6
  obtain ⟨⟨mp, mw, hv0⟩, ⟨g3, hv3, hg3⟩, ⟨g4, hv4, hg4⟩, ⟨g5, hv5, hg5⟩⟩ := id hV
  have hWn := Wn_le hG
  
  refine lv_iconst (v := (nI 0)) hx hb dX5_certainPersons_0 (by decide) ?_
  refine lv_istore_n (lv' := [(2, .int (nI 0)), (0, .ref (fa g v)), (1, .int (nI (nB σ)))]) hx hb dX5_certainPersons_1 rfl hl (by decide) rfl (fun ls hl => ?_)
  refine lv_iconst (v := (nI 0)) hx hb dX5_certainPersons_2 (by decide) ?_
  refine lv_istore_n (lv' := [(3, .int (nI 0)), (2, .int (nI 0)), (0, .ref (fa g v)), (1, .int (nI (nB σ)))]) hx hb dX5_certainPersons_3 rfl hl (by decide) rfl (fun ls hl => ?_)
  refine fs_indP (g := g) (St := Nat) (fun (i : Nat) (ls : Array Slot) => lv_has ls 4 [(0, .ref (fa g v)), (1, .int (nI (nB σ))), (2, .int (nI (cN (fun p => decide (¬ crF σ p = -6)) i))), (3, .int (nI i))] ∧ i ≤ nB σ) (fun (i : Nat) => nB σ - i) ?_ 0 ls _ ⟨lv_sub hl [2, 3, 1, 0] rfl, Nat.zero_le _⟩ hS
  clear hl hS
  intro st ls locs hI hS ih
  obtain ⟨i, rfl⟩ : ∃ z, z = st := ⟨_, rfl⟩
  obtain ⟨hl, hI⟩ := hI
  refine lv_iload_n hx hb dX5_certainPersons_4 rfl (lv_at hl 3 rfl) ?_
  refine lv_iload_n hx hb dX5_certainPersons_5 rfl (lv_at hl 1 rfl) ?_
  refine lv_icmp_ge (tgt := 28) hx hb dX5_certainPersons_6 (by decide) (fun c_6 => ?_) (fun c_6 => ?_)
  · rw [nI_leI (by omega) (by omega)] at c_6
    refine lv_iload_n hx hb dX5_certainPersons_28 rfl (lv_at hl 2 rfl) ?_
    refine fs_piret E hr hlk hS dX5_certainPersons_29 ?_
    rw [show nB σ = i by omega]
  · rw [nI_leI (by omega) (by omega)] at c_6
    refine lv_aload_n hx hb dX5_certainPersons_9 rfl (lv_at hl 0 rfl) ?_
    refine lv_iload_n hx hb dX5_certainPersons_10 rfl (lv_at hl 3 rfl) ?_
    refine fs_pi (va_runV (As := [.int (nI i)]) (rest := []) E.1 (c_X5_certainBox l g N ct v σ i (by omega) hNv hG hV) (lk_RX5_96 E.1.2.2.2.2 ⟨Nat.le_of_ble_eq_true rfl, Nat.le_of_ble_eq_true rfl⟩) (fpreV E hP hS fc5 hv0 (by omega)) rfl rfl hl.1 rfl (lv_room (Nat.le_of_ble_eq_true rfl)) dX5_certainPersons_11 ⟨Nat.zero_le _, Nat.zero_le _⟩) hS (fun r_11 locs p_11 hS => ?_)
    refine fs_vi (y := (crF σ i)) p_11 ?_
    refine lv_bipush (v := (-6)) hx hb dX5_certainPersons_14 (by decide) ?_
    refine lv_icmp_eq (tgt := 22) hx hb dX5_certainPersons_16 (by decide) (fun c_16 => ?_) (fun c_16 => ?_)
    · refine lv_iinc (v := (nI (i + 1))) (lv' := [(3, .int (nI (i + 1))), (0, .ref (fa g v)), (1, .int (nI (nB σ))), (2, .int (nI (cN (fun p => decide (¬ crF σ p = -6)) i)))]) hx hb dX5_certainPersons_22 hl (k := 3) rfl (nI_1 _) (by decide) rfl (fun ls hl => ?_)
      refine lv_goto (tgt := 4) hx hb dX5_certainPersons_25 (by decide) ?_
      have e9 : nI (cN (fun p => decide (¬ crF σ p = -6)) i) = nI (cN (fun p => decide (¬ crF σ p = -6)) (i + 1)) := by rw [cN_f (decide_eq_false (fun z => z c_16))]
      rw [e9] at hl
      exact ih (i + 1) ls _ (by (try dsimp only); omega) ⟨lv_sub hl [1, 2, 3, 0] rfl, by omega⟩ hS
    · refine lv_iinc (v := (nI (cN (fun p => decide (¬ crF σ p = -6)) (i + 1)))) (lv' := [(2, .int (nI (cN (fun p => decide (¬ crF σ p = -6)) (i + 1)))), (0, .ref (fa g v)), (1, .int (nI (nB σ))), (3, .int (nI i))]) hx hb dX5_certainPersons_19 hl (k := 2) rfl (by rw [cN_t (decide_eq_true c_16)]; exact nI_1 _) (by decide) rfl (fun ls hl => ?_)
      refine lv_iinc (v := (nI (i + 1))) (lv' := [(3, .int (nI (i + 1))), (2, .int (nI (cN (fun p => decide (¬ crF σ p = -6)) (i + 1)))), (0, .ref (fa g v)), (1, .int (nI (nB σ)))]) hx hb dX5_certainPersons_22 hl (k := 3) rfl (nI_1 _) (by decide) rfl (fun ls hl => ?_)
      refine lv_goto (tgt := 4) hx hb dX5_certainPersons_25 (by decide) ?_
      exact ih (i + 1) ls _ (by (try dsimp only); omega) ⟨lv_sub hl [2, 3, 1, 0] rfl, by omega⟩ hS

set_option maxRecDepth 100000 in
set_option maxHeartbeats 4000000 in
theorem c_X5_openCertain (l : Launch) (g : fG) (N : Nat) (ct : Nat → va_E) (v : Nat) (σ : Nat → Int32) (h : Nat) (hN : h + 25 ≤ N) (hH : HouseAt g ct h σ) (hNv : v + 7 ≤ N) (hG : Good σ) (hV : SurvP g ct v σ (mM σ)) : Met l yX5_openCertain (wsU yX5_openCertain cX5_openCertain 4 (some .int)) rX5_openCertain (fPre g N ct [.ref (fa g v), .ref (fa g h)]) (fQpi (fun r => r = nI (cN (fun r => opn σ r && decide (0 < Wn σ ∧ HDn σ r = Wn σ)) (nT σ)))) 0 0 (fB g) := by
  refine fs_start (own := RX5) (lv0 := [(0, .ref (fa g v)), (1, .ref (fa g h))]) (by decide) rfl (Nat.le_of_ble_eq_true rfl) rfl ?_
  intro p e s m args below meth c ls E hr hlk hnm hP hl hS
  have hx := E.1.1
  have hb := E.1.2.1
  have hG20 := hG.k
  have hG3 := hG.n3
  have hG6 := hG.n6
  obtain ⟨⟨mp, mw, hv0⟩, ⟨g3, hv3, hg3⟩, ⟨g4, hv4, hg4⟩, ⟨g5, hv5, hg5⟩⟩ := id hV
  have hWn := Wn_le hG
  obtain ⟨hc0, ⟨f1, hc1, hf1⟩, ⟨f2, hc2, hf2⟩, ⟨f3, hc3, hf3⟩, ⟨f4, hc4, hf4⟩, hc5⟩ := id hH
  refine lv_iconst (v := (nI 0)) hx hb dX5_openCertain_0 (by decide) ?_
  refine lv_istore_n (lv' := [(2, .int (nI 0)), (0, .ref (fa g v)), (1, .ref (fa g h))]) hx hb dX5_openCertain_1 rfl hl (by decide) rfl (fun ls hl => ?_)
  refine lv_iconst (v := (nI 0)) hx hb dX5_openCertain_2 (by decide) ?_
  refine lv_istore_n (lv' := [(3, .int (nI 0)), (2, .int (nI 0)), (0, .ref (fa g v)), (1, .ref (fa g h))]) hx hb dX5_openCertain_3 rfl hl (by decide) rfl (fun ls hl => ?_)
  refine fs_indP (g := g) (St := Nat) (fun (i : Nat) (ls : Array Slot) => lv_has ls 4 [(0, .ref (fa g v)), (1, .ref (fa g h)), (2, .int (nI (cN (fun r => opn σ r && decide (0 < Wn σ ∧ HDn σ r = Wn σ)) i))), (3, .int (nI i))] ∧ i ≤ nT σ) (fun (i : Nat) => nT σ - i) ?_ 0 ls _ ⟨lv_sub hl [2, 3, 1, 0] rfl, Nat.zero_le _⟩ hS
  clear hl hS
  intro st ls locs hI hS ih
  obtain ⟨i, rfl⟩ : ∃ z, z = st := ⟨_, rfl⟩
  obtain ⟨hl, hI⟩ := hI
  refine lv_iload_n hx hb dX5_openCertain_4 rfl (lv_at hl 3 rfl) ?_
  refine lv_aload_n hx hb dX5_openCertain_5 rfl (lv_at hl 1 rfl) ?_
  refine fs_getN E hP (k := h) (v := .int (nI (nT σ))) 2 fc1 hc0 (by omega) (by decide) (j := 10) rfl rfl dX5_openCertain_6 ?_
  refine lv_icmp_ge (tgt := 44) hx hb dX5_openCertain_9 (by decide) (fun c_9 => ?_) (fun c_9 => ?_)
  · rw [nI_leI (by omega) (by omega)] at c_9
    refine lv_iload_n hx hb dX5_openCertain_44 rfl (lv_at hl 2 rfl) ?_
    refine fs_piret E hr hlk hS dX5_openCertain_45 ?_
    rw [show nT σ = i by omega]
  · rw [nI_leI (by omega) (by omega)] at c_9
    refine lv_aload_n hx hb dX5_openCertain_12 rfl (lv_at hl 1 rfl) ?_
    refine lv_iload_n hx hb dX5_openCertain_13 rfl (lv_at hl 3 rfl) ?_
    refine fs_pi (va_runV (As := [.int (nI i)]) (rest := []) E.1 (c_X1_isOpen l g N ct h σ i hN hG hH (by omega)) (lk_RX5_99 E.1.2.2.2.2 ⟨Nat.le_of_ble_eq_true rfl, Nat.le_of_ble_eq_true rfl⟩) (fpreV E hP hS fc1 hc0 (by omega)) rfl rfl hl.1 rfl (lv_room (Nat.le_of_ble_eq_true rfl)) dX5_openCertain_14 ⟨Nat.zero_le _, Nat.zero_le _⟩) hS (fun r_14 locs p_14 hS => ?_)
    refine lv_if_eq (tgt := 38) hx hb dX5_openCertain_17 (by decide) (fun c_17 => ?_) (fun c_17 => ?_)
    · have c_17 := (fb_0 p_14).mp c_17
      refine lv_iinc (v := (nI (i + 1))) (lv' := [(3, .int (nI (i + 1))), (0, .ref (fa g v)), (1, .ref (fa g h)), (2, .int (nI (cN (fun r => opn σ r && decide (0 < Wn σ ∧ HDn σ r = Wn σ)) i)))]) hx hb dX5_openCertain_38 hl (k := 3) rfl (nI_1 _) (by decide) rfl (fun ls hl => ?_)
      refine lv_goto (tgt := 4) hx hb dX5_openCertain_41 (by decide) ?_
      have e9 : nI (cN (fun r => opn σ r && decide (0 < Wn σ ∧ HDn σ r = Wn σ)) i) = nI (cN (fun r => opn σ r && decide (0 < Wn σ ∧ HDn σ r = Wn σ)) (i + 1)) := by rw [cN_f (by unfold opn; rw [decide_eq_false c_17]; rfl)]
      rw [e9] at hl
      exact ih (i + 1) ls _ (by (try dsimp only); omega) ⟨lv_sub hl [1, 2, 3, 0] rfl, by omega⟩ hS
    · have c_17 := (fb_1 p_14).mp c_17
      refine lv_aload_n hx hb dX5_openCertain_20 rfl (lv_at hl 0 rfl) ?_
      refine lv_aload_n hx hb dX5_openCertain_21 rfl (lv_at hl 0 rfl) ?_
      refine fs_get E hP (k := v) (v := .ref (fa g (v + 4))) 5 fc5 hv0 (by omega) (by decide) (wm wl_3 (i := 23) rfl) rfl dX5_openCertain_22 ?_
      refine lv_iload_n hx hb dX5_openCertain_25 rfl (lv_at hl 3 rfl) ?_
      refine fs_pi (va_runSN (As := [.ref (fa g (v + 4)), .int (nI i)]) (rest := [.ref (fa g v)]) E.1 (c_X7_at l g N ct (v + 4) 20 g4 (nI i) (by omega) (by omega) hv4) (lk_RX5_73 E.1.2.2.2.2 (E.2.1.2.1 _ (List.mem_of_getElem? (i := 34) rfl)) ⟨Nat.le_of_ble_eq_true rfl, Nat.le_of_ble_eq_true rfl⟩) (fpreS E hP hS) rfl rfl hl.1 rfl (lv_room (Nat.le_of_ble_eq_true rfl)) dX5_openCertain_26 ⟨Nat.zero_le _, Nat.zero_le _⟩) hS (fun r_26 locs p_26 hS => ?_)
      refine fs_vi (y := (nI (HDn σ i))) (p_26.trans ((atF_in (by omega) (by omega)).trans (hg4 _ (by omega)))) ?_
      refine fs_pi (va_runV (As := [.int (nI (HDn σ i))]) (rest := []) E.1 (c_X5_isCertain l g N ct v σ (HDn σ i) (by have := HD_le2 hG i; omega) hNv hG hV) (lk_RX5_92 E.1.2.2.2.2 ⟨Nat.le_of_ble_eq_true rfl, Nat.le_of_ble_eq_true rfl⟩) (fpreV E hP hS fc5 hv0 (by omega)) rfl rfl hl.1 rfl (lv_room (Nat.le_of_ble_eq_true rfl)) dX5_openCertain_29 ⟨Nat.zero_le _, Nat.zero_le _⟩) hS (fun r_29 locs p_29 hS => ?_)
      refine lv_if_eq (tgt := 38) hx hb dX5_openCertain_32 (by decide) (fun c_32 => ?_) (fun c_32 => ?_)
      · have c_32 := (fb_0 p_29).mp c_32
        refine lv_iinc (v := (nI (i + 1))) (lv' := [(3, .int (nI (i + 1))), (0, .ref (fa g v)), (1, .ref (fa g h)), (2, .int (nI (cN (fun r => opn σ r && decide (0 < Wn σ ∧ HDn σ r = Wn σ)) i)))]) hx hb dX5_openCertain_38 hl (k := 3) rfl (nI_1 _) (by decide) rfl (fun ls hl => ?_)
        refine lv_goto (tgt := 4) hx hb dX5_openCertain_41 (by decide) ?_
        have e9 : nI (cN (fun r => opn σ r && decide (0 < Wn σ ∧ HDn σ r = Wn σ)) i) = nI (cN (fun r => opn σ r && decide (0 < Wn σ ∧ HDn σ r = Wn σ)) (i + 1)) := by rw [cN_f (by rw [decide_eq_false c_32, Bool.and_false])]
        rw [e9] at hl
        exact ih (i + 1) ls _ (by (try dsimp only); omega) ⟨lv_sub hl [1, 2, 3, 0] rfl, by omega⟩ hS
      · have c_32 := (fb_1 p_29).mp c_32
        refine lv_iinc (v := (nI (cN (fun r => opn σ r && decide (0 < Wn σ ∧ HDn σ r = Wn σ)) (i + 1)))) (lv' := [(2, .int (nI (cN (fun r => opn σ r && decide (0 < Wn σ ∧ HDn σ r = Wn σ)) (i + 1)))), (0, .ref (fa g v)), (1, .ref (fa g h)), (3, .int (nI i))]) hx hb dX5_openCertain_35 hl (k := 2) rfl (by rw [cN_t (by unfold opn; rw [decide_eq_true c_17, decide_eq_true c_32]; rfl)]; exact nI_1 _) (by decide) rfl (fun ls hl => ?_)
        refine lv_iinc (v := (nI (i + 1))) (lv' := [(3, .int (nI (i + 1))), (2, .int (nI (cN (fun r => opn σ r && decide (0 < Wn σ ∧ HDn σ r = Wn σ)) (i + 1)))), (0, .ref (fa g v)), (1, .ref (fa g h))]) hx hb dX5_openCertain_38 hl (k := 3) rfl (nI_1 _) (by decide) rfl (fun ls hl => ?_)
        refine lv_goto (tgt := 4) hx hb dX5_openCertain_41 (by decide) ?_
        exact ih (i + 1) ls _ (by (try dsimp only); omega) ⟨lv_sub hl [2, 3, 1, 0] rfl, by omega⟩ hS

set_option maxRecDepth 100000 in
set_option maxHeartbeats 4000000 in
theorem c_X5_openRuledOut (l : Launch) (g : fG) (N : Nat) (ct : Nat → va_E) (v : Nat) (σ : Nat → Int32) (h : Nat) (hN : h + 25 ≤ N) (hH : HouseAt g ct h σ) (hNv : v + 7 ≤ N) (hG : Good σ) (hV : SurvP g ct v σ (mM σ)) : Met l yX5_openRuledOut (wsU yX5_openRuledOut cX5_openRuledOut 4 (some .int)) rX5_openRuledOut (fPre g N ct [.ref (fa g v), .ref (fa g h)]) (fQpi (fun r => r = nI (cN (fun r => opn σ r && decide (0 < Wn σ ∧ HDn σ r = 0)) (nT σ)))) 0 0 (fB g) := by
  refine fs_start (own := RX5) (lv0 := [(0, .ref (fa g v)), (1, .ref (fa g h))]) (by decide) rfl (Nat.le_of_ble_eq_true rfl) rfl ?_
  intro p e s m args below meth c ls E hr hlk hnm hP hl hS
  have hx := E.1.1
  have hb := E.1.2.1
  have hG20 := hG.k
  have hG3 := hG.n3
  have hG6 := hG.n6
  obtain ⟨⟨mp, mw, hv0⟩, ⟨g3, hv3, hg3⟩, ⟨g4, hv4, hg4⟩, ⟨g5, hv5, hg5⟩⟩ := id hV
  have hWn := Wn_le hG
  obtain ⟨hc0, ⟨f1, hc1, hf1⟩, ⟨f2, hc2, hf2⟩, ⟨f3, hc3, hf3⟩, ⟨f4, hc4, hf4⟩, hc5⟩ := id hH
  refine lv_iconst (v := (nI 0)) hx hb dX5_openRuledOut_0 (by decide) ?_
  refine lv_istore_n (lv' := [(2, .int (nI 0)), (0, .ref (fa g v)), (1, .ref (fa g h))]) hx hb dX5_openRuledOut_1 rfl hl (by decide) rfl (fun ls hl => ?_)
  refine lv_iconst (v := (nI 0)) hx hb dX5_openRuledOut_2 (by decide) ?_
  refine lv_istore_n (lv' := [(3, .int (nI 0)), (2, .int (nI 0)), (0, .ref (fa g v)), (1, .ref (fa g h))]) hx hb dX5_openRuledOut_3 rfl hl (by decide) rfl (fun ls hl => ?_)
  refine fs_indP (g := g) (St := Nat) (fun (i : Nat) (ls : Array Slot) => lv_has ls 4 [(0, .ref (fa g v)), (1, .ref (fa g h)), (2, .int (nI (cN (fun r => opn σ r && decide (0 < Wn σ ∧ HDn σ r = 0)) i))), (3, .int (nI i))] ∧ i ≤ nT σ) (fun (i : Nat) => nT σ - i) ?_ 0 ls _ ⟨lv_sub hl [2, 3, 1, 0] rfl, Nat.zero_le _⟩ hS
  clear hl hS
  intro st ls locs hI hS ih
  obtain ⟨i, rfl⟩ : ∃ z, z = st := ⟨_, rfl⟩
  obtain ⟨hl, hI⟩ := hI
  refine lv_iload_n hx hb dX5_openRuledOut_4 rfl (lv_at hl 3 rfl) ?_
  refine lv_aload_n hx hb dX5_openRuledOut_5 rfl (lv_at hl 1 rfl) ?_
  refine fs_getN E hP (k := h) (v := .int (nI (nT σ))) 2 fc1 hc0 (by omega) (by decide) (j := 10) rfl rfl dX5_openRuledOut_6 ?_
  refine lv_icmp_ge (tgt := 44) hx hb dX5_openRuledOut_9 (by decide) (fun c_9 => ?_) (fun c_9 => ?_)
  · rw [nI_leI (by omega) (by omega)] at c_9
    refine lv_iload_n hx hb dX5_openRuledOut_44 rfl (lv_at hl 2 rfl) ?_
    refine fs_piret E hr hlk hS dX5_openRuledOut_45 ?_
    rw [show nT σ = i by omega]
  · rw [nI_leI (by omega) (by omega)] at c_9
    refine lv_aload_n hx hb dX5_openRuledOut_12 rfl (lv_at hl 1 rfl) ?_
    refine lv_iload_n hx hb dX5_openRuledOut_13 rfl (lv_at hl 3 rfl) ?_
    refine fs_pi (va_runV (As := [.int (nI i)]) (rest := []) E.1 (c_X1_isOpen l g N ct h σ i hN hG hH (by omega)) (lk_RX5_99 E.1.2.2.2.2 ⟨Nat.le_of_ble_eq_true rfl, Nat.le_of_ble_eq_true rfl⟩) (fpreV E hP hS fc1 hc0 (by omega)) rfl rfl hl.1 rfl (lv_room (Nat.le_of_ble_eq_true rfl)) dX5_openRuledOut_14 ⟨Nat.zero_le _, Nat.zero_le _⟩) hS (fun r_14 locs p_14 hS => ?_)
    refine lv_if_eq (tgt := 38) hx hb dX5_openRuledOut_17 (by decide) (fun c_17 => ?_) (fun c_17 => ?_)
    · have c_17 := (fb_0 p_14).mp c_17
      refine lv_iinc (v := (nI (i + 1))) (lv' := [(3, .int (nI (i + 1))), (0, .ref (fa g v)), (1, .ref (fa g h)), (2, .int (nI (cN (fun r => opn σ r && decide (0 < Wn σ ∧ HDn σ r = 0)) i)))]) hx hb dX5_openRuledOut_38 hl (k := 3) rfl (nI_1 _) (by decide) rfl (fun ls hl => ?_)
      refine lv_goto (tgt := 4) hx hb dX5_openRuledOut_41 (by decide) ?_
      have e9 : nI (cN (fun r => opn σ r && decide (0 < Wn σ ∧ HDn σ r = 0)) i) = nI (cN (fun r => opn σ r && decide (0 < Wn σ ∧ HDn σ r = 0)) (i + 1)) := by rw [cN_f (by unfold opn; rw [decide_eq_false c_17]; rfl)]
      rw [e9] at hl
      exact ih (i + 1) ls _ (by (try dsimp only); omega) ⟨lv_sub hl [1, 2, 3, 0] rfl, by omega⟩ hS
    · have c_17 := (fb_1 p_14).mp c_17
      refine lv_aload_n hx hb dX5_openRuledOut_20 rfl (lv_at hl 0 rfl) ?_
      refine lv_aload_n hx hb dX5_openRuledOut_21 rfl (lv_at hl 0 rfl) ?_
      refine fs_get E hP (k := v) (v := .ref (fa g (v + 4))) 5 fc5 hv0 (by omega) (by decide) (wm wl_3 (i := 23) rfl) rfl dX5_openRuledOut_22 ?_
      refine lv_iload_n hx hb dX5_openRuledOut_25 rfl (lv_at hl 3 rfl) ?_
      refine fs_pi (va_runSN (As := [.ref (fa g (v + 4)), .int (nI i)]) (rest := [.ref (fa g v)]) E.1 (c_X7_at l g N ct (v + 4) 20 g4 (nI i) (by omega) (by omega) hv4) (lk_RX5_73 E.1.2.2.2.2 (E.2.1.2.1 _ (List.mem_of_getElem? (i := 34) rfl)) ⟨Nat.le_of_ble_eq_true rfl, Nat.le_of_ble_eq_true rfl⟩) (fpreS E hP hS) rfl rfl hl.1 rfl (lv_room (Nat.le_of_ble_eq_true rfl)) dX5_openRuledOut_26 ⟨Nat.zero_le _, Nat.zero_le _⟩) hS (fun r_26 locs p_26 hS => ?_)
      refine fs_vi (y := (nI (HDn σ i))) (p_26.trans ((atF_in (by omega) (by omega)).trans (hg4 _ (by omega)))) ?_
      refine fs_pi (va_runV (As := [.int (nI (HDn σ i))]) (rest := []) E.1 (c_X5_isRuledOut l g N ct v σ (HDn σ i) (by have := HD_le2 hG i; omega) hNv hG hV) (lk_RX5_102 E.1.2.2.2.2 ⟨Nat.le_of_ble_eq_true rfl, Nat.le_of_ble_eq_true rfl⟩) (fpreV E hP hS fc5 hv0 (by omega)) rfl rfl hl.1 rfl (lv_room (Nat.le_of_ble_eq_true rfl)) dX5_openRuledOut_29 ⟨Nat.zero_le _, Nat.zero_le _⟩) hS (fun r_29 locs p_29 hS => ?_)
      refine lv_if_eq (tgt := 38) hx hb dX5_openRuledOut_32 (by decide) (fun c_32 => ?_) (fun c_32 => ?_)
      · have c_32 := (fb_0 p_29).mp c_32
        refine lv_iinc (v := (nI (i + 1))) (lv' := [(3, .int (nI (i + 1))), (0, .ref (fa g v)), (1, .ref (fa g h)), (2, .int (nI (cN (fun r => opn σ r && decide (0 < Wn σ ∧ HDn σ r = 0)) i)))]) hx hb dX5_openRuledOut_38 hl (k := 3) rfl (nI_1 _) (by decide) rfl (fun ls hl => ?_)
        refine lv_goto (tgt := 4) hx hb dX5_openRuledOut_41 (by decide) ?_
        have e9 : nI (cN (fun r => opn σ r && decide (0 < Wn σ ∧ HDn σ r = 0)) i) = nI (cN (fun r => opn σ r && decide (0 < Wn σ ∧ HDn σ r = 0)) (i + 1)) := by rw [cN_f (by rw [decide_eq_false c_32, Bool.and_false])]
        rw [e9] at hl
        exact ih (i + 1) ls _ (by (try dsimp only); omega) ⟨lv_sub hl [1, 2, 3, 0] rfl, by omega⟩ hS
      · have c_32 := (fb_1 p_29).mp c_32
        refine lv_iinc (v := (nI (cN (fun r => opn σ r && decide (0 < Wn σ ∧ HDn σ r = 0)) (i + 1)))) (lv' := [(2, .int (nI (cN (fun r => opn σ r && decide (0 < Wn σ ∧ HDn σ r = 0)) (i + 1)))), (0, .ref (fa g v)), (1, .ref (fa g h)), (3, .int (nI i))]) hx hb dX5_openRuledOut_35 hl (k := 2) rfl (by rw [cN_t (by unfold opn; rw [decide_eq_true c_17, decide_eq_true c_32]; rfl)]; exact nI_1 _) (by decide) rfl (fun ls hl => ?_)
        refine lv_iinc (v := (nI (i + 1))) (lv' := [(3, .int (nI (i + 1))), (2, .int (nI (cN (fun r => opn σ r && decide (0 < Wn σ ∧ HDn σ r = 0)) (i + 1)))), (0, .ref (fa g v)), (1, .ref (fa g h))]) hx hb dX5_openRuledOut_38 hl (k := 3) rfl (nI_1 _) (by decide) rfl (fun ls hl => ?_)
        refine lv_goto (tgt := 4) hx hb dX5_openRuledOut_41 (by decide) ?_
        exact ih (i + 1) ls _ (by (try dsimp only); omega) ⟨lv_sub hl [2, 3, 1, 0] rfl, by omega⟩ hS

set_option maxRecDepth 100000 in
set_option maxHeartbeats 4000000 in
theorem c_X5_worseOutcome (l : Launch) (g : fG) (N : Nat) (ct : Nat → va_E) (v : Nat) (σ : Nat → Int32) (i : Nat) (hi : i < nT σ) (hNv : v + 7 ≤ N) (hG : Good σ) (hV : SurvP g ct v σ (mM σ)) : Met l yX5_worseOutcome (wsU yX5_worseOutcome cX5_worseOutcome 3 (some .int)) rX5_worseOutcome (fPre g N ct [.ref (fa g v), .int (nI i)]) (fQpi (fun r => r = nI (WOn σ i))) 0 0 (fB g) := by
  refine fs_start (own := RX5) (lv0 := [(0, .ref (fa g v)), (1, .int (nI i))]) (by decide) rfl (Nat.le_of_ble_eq_true rfl) rfl ?_
  intro p e s m args below meth c ls E hr hlk hnm hP hl hS
  have hx := E.1.1
  have hb := E.1.2.1
  have hG20 := hG.k
  have hG3 := hG.n3
  have hG6 := hG.n6
  obtain ⟨⟨mp, mw, hv0⟩, ⟨g3, hv3, hg3⟩, ⟨g4, hv4, hg4⟩, ⟨g5, hv5, hg5⟩⟩ := id hV
  have hWn := Wn_le hG
  have hHD := HD_le σ i
  
  refine lv_aload_n hx hb dX5_worseOutcome_0 rfl (lv_at hl 0 rfl) ?_
  refine fs_get E hP (k := v) (v := .ref (fa g (v + 4))) 5 fc5 hv0 (by omega) (by decide) (wm wl_3 (i := 23) rfl) rfl dX5_worseOutcome_1 ?_
  refine lv_iload_n hx hb dX5_worseOutcome_4 rfl (lv_at hl 1 rfl) ?_
  refine fs_pi (va_runSN (As := [.ref (fa g (v + 4)), .int (nI i)]) (rest := []) E.1 (c_X7_at l g N ct (v + 4) 20 g4 (nI i) (by omega) (by omega) hv4) (lk_RX5_73 E.1.2.2.2.2 (E.2.1.2.1 _ (List.mem_of_getElem? (i := 34) rfl)) ⟨Nat.le_of_ble_eq_true rfl, Nat.le_of_ble_eq_true rfl⟩) (fpreS E hP hS) rfl rfl hl.1 rfl (lv_room (Nat.le_of_ble_eq_true rfl)) dX5_worseOutcome_5 ⟨Nat.zero_le _, Nat.zero_le _⟩) hS (fun r_5 locs p_5 hS => ?_)
  refine fs_vi (y := (nI (HDn σ i))) (p_5.trans ((atF_in (by omega) (by omega)).trans (hg4 _ (by omega)))) ?_
  refine lv_istore_n (lv' := [(2, .int (nI (HDn σ i))), (0, .ref (fa g v)), (1, .int (nI i))]) hx hb dX5_worseOutcome_8 rfl hl (by decide) rfl (fun ls hl => ?_)
  refine lv_iload_n hx hb dX5_worseOutcome_9 rfl (lv_at hl 0 rfl) ?_
  refine lv_aload_n hx hb dX5_worseOutcome_10 rfl (lv_at hl 1 rfl) ?_
  refine fs_get E hP (k := v) (v := .int (nI (Wn σ))) 1 fc5 hv0 (by omega) (by decide) (wm wl_9 (i := 14) rfl) rfl dX5_worseOutcome_11 ?_
  refine lv_iload_n hx hb dX5_worseOutcome_14 rfl (lv_at hl 0 rfl) ?_
  refine lv_isub hx hb dX5_worseOutcome_15 ?_
  refine fs_vi (y := (nI (Wn σ - HDn σ i))) (pk_sub (by omega)) ?_
  refine va_mmax hx hb (by rw [E.1.2.2.1]; exact hl.1.symm) E.1.2.2.2.1 (E.1.2.2.2.2 _ (wm wl_16 (i := 23) rfl)) (E.1.2.2.2.2 _ (wm wl_10 (i := 4) rfl)) (E.1.2.2.2.2 _ (wm wl_5 (i := 19) rfl)) (E.1.2.2.2.2 _ (wm wl_10 (i := 5) rfl)) (Nat.le_of_ble_eq_true rfl) (Nat.le_of_ble_eq_true rfl) (Nat.zero_le _) (Nat.zero_le _) dX5_worseOutcome_16 ?_
  refine fs_vi (y := (nI (WOn σ i))) (WO_if (by omega) (by omega)) ?_
  refine fs_piret E hr hlk hS dX5_worseOutcome_19 ?_
  rfl

set_option maxRecDepth 100000 in
set_option maxHeartbeats 4000000 in
theorem c_X5_sharpestRumour (l : Launch) (g : fG) (N : Nat) (ct : Nat → va_E) (v : Nat) (σ : Nat → Int32) (h : Nat) (hN : h + 25 ≤ N) (hH : HouseAt g ct h σ) (hNv : v + 7 ≤ N) (hG : Good σ) (hV : SurvP g ct v σ (mM σ)) : Met l yX5_sharpestRumour (wsU yX5_sharpestRumour cX5_sharpestRumour 4 (some .int)) rX5_sharpestRumour (fPre g N ct [.ref (fa g v), .ref (fa g h)]) (fQpi (fun r => r = optI (shF σ))) 0 0 (fB g) := by
  refine fs_start (own := RX5) (lv0 := [(0, .ref (fa g v)), (1, .ref (fa g h))]) (by decide) rfl (Nat.le_of_ble_eq_true rfl) rfl ?_
  intro p e s m args below meth c ls E hr hlk hnm hP hl hS
  have hx := E.1.1
  have hb := E.1.2.1
  have hG20 := hG.k
  have hG3 := hG.n3
  have hG6 := hG.n6
  obtain ⟨⟨mp, mw, hv0⟩, ⟨g3, hv3, hg3⟩, ⟨g4, hv4, hg4⟩, ⟨g5, hv5, hg5⟩⟩ := id hV
  have hWn := Wn_le hG
  obtain ⟨hc0, ⟨f1, hc1, hf1⟩, ⟨f2, hc2, hf2⟩, ⟨f3, hc3, hf3⟩, ⟨f4, hc4, hf4⟩, hc5⟩ := id hH
  refine lv_bipush (v := (-6)) hx hb dX5_sharpestRumour_0 (by decide) ?_
  refine lv_istore_n (lv' := [(2, .int (-6)), (0, .ref (fa g v)), (1, .ref (fa g h))]) hx hb dX5_sharpestRumour_2 rfl hl (by decide) rfl (fun ls hl => ?_)
  refine lv_iconst (v := (nI 0)) hx hb dX5_sharpestRumour_3 (by decide) ?_
  refine lv_istore_n (lv' := [(3, .int (nI 0)), (2, .int (-6)), (0, .ref (fa g v)), (1, .ref (fa g h))]) hx hb dX5_sharpestRumour_4 rfl hl (by decide) rfl (fun ls hl => ?_)
  refine fs_indP (g := g) (St := Nat) (fun (i : Nat) (ls : Array Slot) => lv_has ls 4 [(0, .ref (fa g v)), (1, .ref (fa g h)), (2, .int (optI (bst (opn σ) (fun a b => decide (WOn σ a < WOn σ b)) i))), (3, .int (nI i))] ∧ i ≤ nT σ) (fun (i : Nat) => nT σ - i) ?_ 0 ls _ ⟨lv_sub hl [2, 3, 1, 0] rfl, Nat.zero_le _⟩ hS
  clear hl hS
  intro st ls locs hI hS ih
  obtain ⟨i, rfl⟩ : ∃ z, z = st := ⟨_, rfl⟩
  obtain ⟨hl, hI⟩ := hI
  refine lv_iload_n hx hb dX5_sharpestRumour_5 rfl (lv_at hl 3 rfl) ?_
  refine lv_aload_n hx hb dX5_sharpestRumour_6 rfl (lv_at hl 1 rfl) ?_
  refine fs_getN E hP (k := h) (v := .int (nI (nT σ))) 2 fc1 hc0 (by omega) (by decide) (j := 10) rfl rfl dX5_sharpestRumour_7 ?_
  refine lv_icmp_ge (tgt := 48) hx hb dX5_sharpestRumour_10 (by decide) (fun c_10 => ?_) (fun c_10 => ?_)
  · rw [nI_leI (by omega) (by omega)] at c_10
    refine lv_iload_n hx hb dX5_sharpestRumour_48 rfl (lv_at hl 2 rfl) ?_
    refine fs_piret E hr hlk hS dX5_sharpestRumour_49 ?_
    have e9 : i = nT σ := by omega
    rw [e9]; rfl
  · rw [nI_leI (by omega) (by omega)] at c_10
    refine lv_aload_n hx hb dX5_sharpestRumour_13 rfl (lv_at hl 1 rfl) ?_
    refine lv_iload_n hx hb dX5_sharpestRumour_14 rfl (lv_at hl 3 rfl) ?_
    refine fs_pi (va_runV (As := [.int (nI i)]) (rest := []) E.1 (c_X1_isOpen l g N ct h σ i hN hG hH (by omega)) (lk_RX5_99 E.1.2.2.2.2 ⟨Nat.le_of_ble_eq_true rfl, Nat.le_of_ble_eq_true rfl⟩) (fpreV E hP hS fc1 hc0 (by omega)) rfl rfl hl.1 rfl (lv_room (Nat.le_of_ble_eq_true rfl)) dX5_sharpestRumour_15 ⟨Nat.zero_le _, Nat.zero_le _⟩) hS (fun r_15 locs p_15 hS => ?_)
    refine lv_if_eq (tgt := 42) hx hb dX5_sharpestRumour_18 (by decide) (fun c_18 => ?_) (fun c_18 => ?_)
    · have c_18 := (fb_0 p_15).mp c_18
      refine lv_iinc (v := (nI (i + 1))) (lv' := [(3, .int (nI (i + 1))), (0, .ref (fa g v)), (1, .ref (fa g h)), (2, .int (optI (bst (opn σ) (fun a b => decide (WOn σ a < WOn σ b)) i)))]) hx hb dX5_sharpestRumour_42 hl (k := 3) rfl (nI_1 _) (by decide) rfl (fun ls hl => ?_)
      refine lv_goto (tgt := 5) hx hb dX5_sharpestRumour_45 (by decide) ?_
      have e9 : bst (opn σ) (fun a b => decide (WOn σ a < WOn σ b)) (i + 1) = bst (opn σ) (fun a b => decide (WOn σ a < WOn σ b)) i := bst_no (by unfold opn; exact decide_eq_false c_18)
      rw [← e9] at hl
      exact ih (i + 1) ls _ (by (try dsimp only); omega) ⟨lv_sub hl [1, 2, 3, 0] rfl, by omega⟩ hS
    · have c_18 := (fb_1 p_15).mp c_18
      rcases hbs : bst (opn σ) (fun a b => decide (WOn σ a < WOn σ b)) i with _ | b8
      · replace hl : lv_has ls 4 [(0, .ref (fa g v)), (1, .ref (fa g h)), (2, .int (-6)), (3, .int (nI i))] := by rw [hbs] at hl; exact hl
        refine lv_iload_n hx hb dX5_sharpestRumour_21 rfl (lv_at hl 2 rfl) ?_
        refine lv_bipush (v := (-6)) hx hb dX5_sharpestRumour_22 (by decide) ?_
        refine lv_icmp_eq (tgt := 40) hx hb dX5_sharpestRumour_24 (by decide) (fun c_24 => ?_) (fun c_24 => ?_)
        · refine lv_iload_n hx hb dX5_sharpestRumour_40 rfl (lv_at hl 3 rfl) ?_
          refine lv_istore_n (lv' := [(2, .int (nI i)), (0, .ref (fa g v)), (1, .ref (fa g h)), (3, .int (nI i))]) hx hb dX5_sharpestRumour_41 rfl hl (by decide) rfl (fun ls hl => ?_)
          refine lv_iinc (v := (nI (i + 1))) (lv' := [(3, .int (nI (i + 1))), (2, .int (nI i)), (0, .ref (fa g v)), (1, .ref (fa g h))]) hx hb dX5_sharpestRumour_42 hl (k := 3) rfl (nI_1 _) (by decide) rfl (fun ls hl => ?_)
          refine lv_goto (tgt := 5) hx hb dX5_sharpestRumour_45 (by decide) ?_
          have e9 : bst (opn σ) (fun a b => decide (WOn σ a < WOn σ b)) (i + 1) = some i := bst_new (by unfold opn; exact decide_eq_true c_18) hbs
          replace hl : lv_has ls 4 [(3, .int (nI (i + 1))), (2, .int (optI (bst (opn σ) (fun a b => decide (WOn σ a < WOn σ b)) (i + 1)))), (0, .ref (fa g v)), (1, .ref (fa g h))] := by rw [e9]; exact hl
          exact ih (i + 1) ls _ (by (try dsimp only); omega) ⟨lv_sub hl [2, 3, 1, 0] rfl, by omega⟩ hS
        · exact absurd rfl c_24
      · replace hl : lv_has ls 4 [(0, .ref (fa g v)), (1, .ref (fa g h)), (2, .int (nI b8)), (3, .int (nI i))] := by rw [hbs] at hl; exact hl
        have hb8 := (bst_lt hbs).1
        refine lv_iload_n hx hb dX5_sharpestRumour_21 rfl (lv_at hl 2 rfl) ?_
        refine lv_bipush (v := (-6)) hx hb dX5_sharpestRumour_22 (by decide) ?_
        refine lv_icmp_eq (tgt := 40) hx hb dX5_sharpestRumour_24 (by decide) (fun c_24 => ?_) (fun c_24 => ?_)
        · exact absurd c_24 (nI_ne6 (by omega))
        · refine lv_aload_n hx hb dX5_sharpestRumour_27 rfl (lv_at hl 0 rfl) ?_
          refine lv_iload_n hx hb dX5_sharpestRumour_28 rfl (lv_at hl 3 rfl) ?_
          refine fs_pi (va_runV (As := [.int (nI i)]) (rest := []) E.1 (c_X5_worseOutcome l g N ct v σ i (by omega) hNv hG hV) (lk_RX5_110 E.1.2.2.2.2 ⟨Nat.le_of_ble_eq_true rfl, Nat.le_of_ble_eq_true rfl⟩) (fpreV E hP hS fc5 hv0 (by omega)) rfl rfl hl.1 rfl (lv_room (Nat.le_of_ble_eq_true rfl)) dX5_sharpestRumour_29 ⟨Nat.zero_le _, Nat.zero_le _⟩) hS (fun r_29 locs p_29 hS => ?_)
          refine fs_vi (y := (nI (WOn σ i))) p_29 ?_
          refine lv_aload_n hx hb dX5_sharpestRumour_32 rfl (lv_at hl 0 rfl) ?_
          refine lv_iload_n hx hb dX5_sharpestRumour_33 rfl (lv_at hl 2 rfl) ?_
          refine fs_pi (va_runV (As := [.int (nI b8)]) (rest := [.int (nI (WOn σ i))]) E.1 (c_X5_worseOutcome l g N ct v σ b8 (by omega) hNv hG hV) (lk_RX5_110 E.1.2.2.2.2 ⟨Nat.le_of_ble_eq_true rfl, Nat.le_of_ble_eq_true rfl⟩) (fpreV E hP hS fc5 hv0 (by omega)) rfl rfl hl.1 rfl (lv_room (Nat.le_of_ble_eq_true rfl)) dX5_sharpestRumour_34 ⟨Nat.zero_le _, Nat.zero_le _⟩) hS (fun r_34 locs p_34 hS => ?_)
          refine fs_vi (y := (nI (WOn σ b8))) p_34 ?_
          have hwo : ∀ r, WOn σ r ≤ 15625 := fun r => by have := HD_le2 hG r; unfold WOn; omega
          have hwo1 := hwo i
          have hwo2 := hwo b8
          refine lv_icmp_ge (tgt := 42) hx hb dX5_sharpestRumour_37 (by decide) (fun c_37 => ?_) (fun c_37 => ?_)
          · rw [nI_leI (by omega) (by omega)] at c_37
            refine lv_iinc (v := (nI (i + 1))) (lv' := [(3, .int (nI (i + 1))), (0, .ref (fa g v)), (1, .ref (fa g h)), (2, .int (nI b8))]) hx hb dX5_sharpestRumour_42 hl (k := 3) rfl (nI_1 _) (by decide) rfl (fun ls hl => ?_)
            refine lv_goto (tgt := 5) hx hb dX5_sharpestRumour_45 (by decide) ?_
            have e9 : bst (opn σ) (fun a b => decide (WOn σ a < WOn σ b)) (i + 1) = some b8 := bst_old (by unfold opn; exact decide_eq_true c_18) hbs (decide_eq_false (by omega))
            replace hl : lv_has ls 4 [(3, .int (nI (i + 1))), (0, .ref (fa g v)), (1, .ref (fa g h)), (2, .int (optI (bst (opn σ) (fun a b => decide (WOn σ a < WOn σ b)) (i + 1))))] := by rw [e9]; exact hl
            exact ih (i + 1) ls _ (by (try dsimp only); omega) ⟨lv_sub hl [1, 2, 3, 0] rfl, by omega⟩ hS
          · rw [nI_leI (by omega) (by omega)] at c_37
            refine lv_iload_n hx hb dX5_sharpestRumour_40 rfl (lv_at hl 3 rfl) ?_
            refine lv_istore_n (lv' := [(2, .int (nI i)), (0, .ref (fa g v)), (1, .ref (fa g h)), (3, .int (nI i))]) hx hb dX5_sharpestRumour_41 rfl hl (by decide) rfl (fun ls hl => ?_)
            refine lv_iinc (v := (nI (i + 1))) (lv' := [(3, .int (nI (i + 1))), (2, .int (nI i)), (0, .ref (fa g v)), (1, .ref (fa g h))]) hx hb dX5_sharpestRumour_42 hl (k := 3) rfl (nI_1 _) (by decide) rfl (fun ls hl => ?_)
            refine lv_goto (tgt := 5) hx hb dX5_sharpestRumour_45 (by decide) ?_
            have e9 : bst (opn σ) (fun a b => decide (WOn σ a < WOn σ b)) (i + 1) = some i := bst_yes (by unfold opn; exact decide_eq_true c_18) hbs (decide_eq_true (by omega))
            replace hl : lv_has ls 4 [(3, .int (nI (i + 1))), (2, .int (optI (bst (opn σ) (fun a b => decide (WOn σ a < WOn σ b)) (i + 1)))), (0, .ref (fa g v)), (1, .ref (fa g h))] := by rw [e9]; exact hl
            exact ih (i + 1) ls _ (by (try dsimp only); omega) ⟨lv_sub hl [2, 3, 1, 0] rfl, by omega⟩ hS

set_option maxRecDepth 100000 in
set_option maxHeartbeats 4000000 in
theorem c_X5_mostToBlame (l : Launch) (g : fG) (N : Nat) (ct : Nat → va_E) (v : Nat) (σ : Nat → Int32) (h : Nat) (hN : h + 25 ≤ N) (hH : HouseAt g ct h σ) (hNv : v + 7 ≤ N) (hG : Good σ) (hV : SurvP g ct v σ (mM σ)) : Met l yX5_mostToBlame (wsU yX5_mostToBlame cX5_mostToBlame 4 (some .int)) rX5_mostToBlame (fPre g N ct [.ref (fa g v), .ref (fa g h)]) (fQpi (fun r => r = optI (blF σ))) 0 0 (fB g) := by
  refine fs_start (own := RX5) (lv0 := [(0, .ref (fa g v)), (1, .ref (fa g h))]) (by decide) rfl (Nat.le_of_ble_eq_true rfl) rfl ?_
  intro p e s m args below meth c ls E hr hlk hnm hP hl hS
  have hx := E.1.1
  have hb := E.1.2.1
  have hG20 := hG.k
  have hG3 := hG.n3
  have hG6 := hG.n6
  obtain ⟨⟨mp, mw, hv0⟩, ⟨g3, hv3, hg3⟩, ⟨g4, hv4, hg4⟩, ⟨g5, hv5, hg5⟩⟩ := id hV
  have hWn := Wn_le hG
  obtain ⟨hc0, ⟨f1, hc1, hf1⟩, ⟨f2, hc2, hf2⟩, ⟨f3, hc3, hf3⟩, ⟨f4, hc4, hf4⟩, hc5⟩ := id hH
  refine lv_bipush (v := (-6)) hx hb dX5_mostToBlame_0 (by decide) ?_
  refine lv_istore_n (lv' := [(2, .int (-6)), (0, .ref (fa g v)), (1, .ref (fa g h))]) hx hb dX5_mostToBlame_2 rfl hl (by decide) rfl (fun ls hl => ?_)
  refine lv_iconst (v := (nI 0)) hx hb dX5_mostToBlame_3 (by decide) ?_
  refine lv_istore_n (lv' := [(3, .int (nI 0)), (2, .int (-6)), (0, .ref (fa g v)), (1, .ref (fa g h))]) hx hb dX5_mostToBlame_4 rfl hl (by decide) rfl (fun ls hl => ?_)
  refine fs_indP (g := g) (St := Nat) (fun (i : Nat) (ls : Array Slot) => lv_has ls 4 [(0, .ref (fa g v)), (1, .ref (fa g h)), (2, .int (optI (bst (fun r => !opn σ r) (fun a b => decide (ONn σ b < ONn σ a)) i))), (3, .int (nI i))] ∧ i ≤ nT σ) (fun (i : Nat) => nT σ - i) ?_ 0 ls _ ⟨lv_sub hl [2, 3, 1, 0] rfl, Nat.zero_le _⟩ hS
  clear hl hS
  intro st ls locs hI hS ih
  obtain ⟨i, rfl⟩ : ∃ z, z = st := ⟨_, rfl⟩
  obtain ⟨hl, hI⟩ := hI
  refine lv_iload_n hx hb dX5_mostToBlame_5 rfl (lv_at hl 3 rfl) ?_
  refine lv_aload_n hx hb dX5_mostToBlame_6 rfl (lv_at hl 1 rfl) ?_
  refine fs_getN E hP (k := h) (v := .int (nI (nT σ))) 2 fc1 hc0 (by omega) (by decide) (j := 10) rfl rfl dX5_mostToBlame_7 ?_
  refine lv_icmp_ge (tgt := 54) hx hb dX5_mostToBlame_10 (by decide) (fun c_10 => ?_) (fun c_10 => ?_)
  · rw [nI_leI (by omega) (by omega)] at c_10
    refine lv_iload_n hx hb dX5_mostToBlame_54 rfl (lv_at hl 2 rfl) ?_
    refine fs_piret E hr hlk hS dX5_mostToBlame_55 ?_
    have e9 : i = nT σ := by omega
    rw [e9]; rfl
  · rw [nI_leI (by omega) (by omega)] at c_10
    refine lv_aload_n hx hb dX5_mostToBlame_13 rfl (lv_at hl 1 rfl) ?_
    refine lv_iload_n hx hb dX5_mostToBlame_14 rfl (lv_at hl 3 rfl) ?_
    refine fs_pi (va_runV (As := [.int (nI i)]) (rest := []) E.1 (c_X1_isOpen l g N ct h σ i hN hG hH (by omega)) (lk_RX5_99 E.1.2.2.2.2 ⟨Nat.le_of_ble_eq_true rfl, Nat.le_of_ble_eq_true rfl⟩) (fpreV E hP hS fc1 hc0 (by omega)) rfl rfl hl.1 rfl (lv_room (Nat.le_of_ble_eq_true rfl)) dX5_mostToBlame_15 ⟨Nat.zero_le _, Nat.zero_le _⟩) hS (fun r_15 locs p_15 hS => ?_)
    refine lv_if_ne (tgt := 48) hx hb dX5_mostToBlame_18 (by decide) (fun c_18 => ?_) (fun c_18 => ?_)
    · have c_18 := (fb_1 p_15).mp c_18
      refine lv_iinc (v := (nI (i + 1))) (lv' := [(3, .int (nI (i + 1))), (0, .ref (fa g v)), (1, .ref (fa g h)), (2, .int (optI (bst (fun r => !opn σ r) (fun a b => decide (ONn σ b < ONn σ a)) i)))]) hx hb dX5_mostToBlame_48 hl (k := 3) rfl (nI_1 _) (by decide) rfl (fun ls hl => ?_)
      refine lv_goto (tgt := 5) hx hb dX5_mostToBlame_51 (by decide) ?_
      have e9 : bst (fun r => !opn σ r) (fun a b => decide (ONn σ b < ONn σ a)) (i + 1) = bst (fun r => !opn σ r) (fun a b => decide (ONn σ b < ONn σ a)) i := bst_no (by unfold opn; rw [decide_eq_true c_18]; rfl)
      rw [← e9] at hl
      exact ih (i + 1) ls _ (by (try dsimp only); omega) ⟨lv_sub hl [1, 2, 3, 0] rfl, by omega⟩ hS
    · have c_18 := (fb_0 p_15).mp c_18
      rcases hbs : bst (fun r => !opn σ r) (fun a b => decide (ONn σ b < ONn σ a)) i with _ | b8
      · replace hl : lv_has ls 4 [(0, .ref (fa g v)), (1, .ref (fa g h)), (2, .int (-6)), (3, .int (nI i))] := by rw [hbs] at hl; exact hl
        refine lv_iload_n hx hb dX5_mostToBlame_21 rfl (lv_at hl 2 rfl) ?_
        refine lv_bipush (v := (-6)) hx hb dX5_mostToBlame_22 (by decide) ?_
        refine lv_icmp_eq (tgt := 46) hx hb dX5_mostToBlame_24 (by decide) (fun c_24 => ?_) (fun c_24 => ?_)
        · refine lv_iload_n hx hb dX5_mostToBlame_46 rfl (lv_at hl 3 rfl) ?_
          refine lv_istore_n (lv' := [(2, .int (nI i)), (0, .ref (fa g v)), (1, .ref (fa g h)), (3, .int (nI i))]) hx hb dX5_mostToBlame_47 rfl hl (by decide) rfl (fun ls hl => ?_)
          refine lv_iinc (v := (nI (i + 1))) (lv' := [(3, .int (nI (i + 1))), (2, .int (nI i)), (0, .ref (fa g v)), (1, .ref (fa g h))]) hx hb dX5_mostToBlame_48 hl (k := 3) rfl (nI_1 _) (by decide) rfl (fun ls hl => ?_)
          refine lv_goto (tgt := 5) hx hb dX5_mostToBlame_51 (by decide) ?_
          have e9 : bst (fun r => !opn σ r) (fun a b => decide (ONn σ b < ONn σ a)) (i + 1) = some i := bst_new (by unfold opn; rw [decide_eq_false c_18]; rfl) hbs
          replace hl : lv_has ls 4 [(3, .int (nI (i + 1))), (2, .int (optI (bst (fun r => !opn σ r) (fun a b => decide (ONn σ b < ONn σ a)) (i + 1)))), (0, .ref (fa g v)), (1, .ref (fa g h))] := by rw [e9]; exact hl
          exact ih (i + 1) ls _ (by (try dsimp only); omega) ⟨lv_sub hl [2, 3, 1, 0] rfl, by omega⟩ hS
        · exact absurd rfl c_24
      · replace hl : lv_has ls 4 [(0, .ref (fa g v)), (1, .ref (fa g h)), (2, .int (nI b8)), (3, .int (nI i))] := by rw [hbs] at hl; exact hl
        have hb8 := (bst_lt hbs).1
        refine lv_iload_n hx hb dX5_mostToBlame_21 rfl (lv_at hl 2 rfl) ?_
        refine lv_bipush (v := (-6)) hx hb dX5_mostToBlame_22 (by decide) ?_
        refine lv_icmp_eq (tgt := 46) hx hb dX5_mostToBlame_24 (by decide) (fun c_24 => ?_) (fun c_24 => ?_)
        · exact absurd c_24 (nI_ne6 (by omega))
        · refine lv_aload_n hx hb dX5_mostToBlame_27 rfl (lv_at hl 0 rfl) ?_
          refine fs_get E hP (k := v) (v := .ref (fa g (v + 5))) 6 fc5 hv0 (by omega) (by decide) (wm wl_4 (i := 0) rfl) rfl dX5_mostToBlame_28 ?_
          refine lv_iload_n hx hb dX5_mostToBlame_31 rfl (lv_at hl 3 rfl) ?_
          refine fs_pi (va_runSN (As := [.ref (fa g (v + 5)), .int (nI i)]) (rest := []) E.1 (c_X7_at l g N ct (v + 5) 20 g5 (nI i) (by omega) (by omega) hv5) (lk_RX5_73 E.1.2.2.2.2 (E.2.1.2.1 _ (List.mem_of_getElem? (i := 34) rfl)) ⟨Nat.le_of_ble_eq_true rfl, Nat.le_of_ble_eq_true rfl⟩) (fpreS E hP hS) rfl rfl hl.1 rfl (lv_room (Nat.le_of_ble_eq_true rfl)) dX5_mostToBlame_32 ⟨Nat.zero_le _, Nat.zero_le _⟩) hS (fun r_32 locs p_32 hS => ?_)
          refine fs_vi (y := (nI (ONn σ i))) (p_32.trans ((atF_in (by omega) (by omega)).trans (hg5 _ (by omega)))) ?_
          have honi := ON_le hG i
          refine lv_aload_n hx hb dX5_mostToBlame_35 rfl (lv_at hl 0 rfl) ?_
          refine fs_get E hP (k := v) (v := .ref (fa g (v + 5))) 6 fc5 hv0 (by omega) (by decide) (wm wl_4 (i := 0) rfl) rfl dX5_mostToBlame_36 ?_
          refine lv_iload_n hx hb dX5_mostToBlame_39 rfl (lv_at hl 2 rfl) ?_
          refine fs_pi (va_runSN (As := [.ref (fa g (v + 5)), .int (nI b8)]) (rest := [.int (nI (ONn σ i))]) E.1 (c_X7_at l g N ct (v + 5) 20 g5 (nI b8) (by omega) (by omega) hv5) (lk_RX5_73 E.1.2.2.2.2 (E.2.1.2.1 _ (List.mem_of_getElem? (i := 34) rfl)) ⟨Nat.le_of_ble_eq_true rfl, Nat.le_of_ble_eq_true rfl⟩) (fpreS E hP hS) rfl rfl hl.1 rfl (lv_room (Nat.le_of_ble_eq_true rfl)) dX5_mostToBlame_40 ⟨Nat.zero_le _, Nat.zero_le _⟩) hS (fun r_40 locs p_40 hS => ?_)
          refine fs_vi (y := (nI (ONn σ b8))) (p_40.trans ((atF_in (by omega) (by omega)).trans (hg5 _ (by omega)))) ?_
          have honb8 := ON_le hG b8
          refine lv_icmp_le (tgt := 48) hx hb dX5_mostToBlame_43 (by decide) (fun c_43 => ?_) (fun c_43 => ?_)
          · rw [nI_leI (by omega) (by omega)] at c_43
            refine lv_iinc (v := (nI (i + 1))) (lv' := [(3, .int (nI (i + 1))), (0, .ref (fa g v)), (1, .ref (fa g h)), (2, .int (nI b8))]) hx hb dX5_mostToBlame_48 hl (k := 3) rfl (nI_1 _) (by decide) rfl (fun ls hl => ?_)
            refine lv_goto (tgt := 5) hx hb dX5_mostToBlame_51 (by decide) ?_
            have e9 : bst (fun r => !opn σ r) (fun a b => decide (ONn σ b < ONn σ a)) (i + 1) = some b8 := bst_old (by unfold opn; rw [decide_eq_false c_18]; rfl) hbs (decide_eq_false (by omega))
            replace hl : lv_has ls 4 [(3, .int (nI (i + 1))), (0, .ref (fa g v)), (1, .ref (fa g h)), (2, .int (optI (bst (fun r => !opn σ r) (fun a b => decide (ONn σ b < ONn σ a)) (i + 1))))] := by rw [e9]; exact hl
            exact ih (i + 1) ls _ (by (try dsimp only); omega) ⟨lv_sub hl [1, 2, 3, 0] rfl, by omega⟩ hS
          · rw [nI_leI (by omega) (by omega)] at c_43
            refine lv_iload_n hx hb dX5_mostToBlame_46 rfl (lv_at hl 3 rfl) ?_
            refine lv_istore_n (lv' := [(2, .int (nI i)), (0, .ref (fa g v)), (1, .ref (fa g h)), (3, .int (nI i))]) hx hb dX5_mostToBlame_47 rfl hl (by decide) rfl (fun ls hl => ?_)
            refine lv_iinc (v := (nI (i + 1))) (lv' := [(3, .int (nI (i + 1))), (2, .int (nI i)), (0, .ref (fa g v)), (1, .ref (fa g h))]) hx hb dX5_mostToBlame_48 hl (k := 3) rfl (nI_1 _) (by decide) rfl (fun ls hl => ?_)
            refine lv_goto (tgt := 5) hx hb dX5_mostToBlame_51 (by decide) ?_
            have e9 : bst (fun r => !opn σ r) (fun a b => decide (ONn σ b < ONn σ a)) (i + 1) = some i := bst_yes (by unfold opn; rw [decide_eq_false c_18]; rfl) hbs (decide_eq_true (by omega))
            replace hl : lv_has ls 4 [(3, .int (nI (i + 1))), (2, .int (optI (bst (fun r => !opn σ r) (fun a b => decide (ONn σ b < ONn σ a)) (i + 1)))), (0, .ref (fa g v)), (1, .ref (fa g h))] := by rw [e9]; exact hl
            exact ih (i + 1) ls _ (by (try dsimp only); omega) ⟨lv_sub hl [2, 3, 1, 0] rfl, by omega⟩ hS
