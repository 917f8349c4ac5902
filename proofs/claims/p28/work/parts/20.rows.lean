
theorem fu_fu (ct : Nat → va_E) (k : Nat) (a b : va_E) : fu (fu ct k a) k b = fu ct k b := by funext j; unfold fu; split <;> rfl
theorem fu_same {ct : Nat → va_E} {k : Nat} {a : va_E} (h : ct k = a) : fu ct k a = ct := by
  funext j; unfold fu; split
  · rename_i e; rw [e, h]
  · rfl
/-- a row's value at an index, or -1 -/
def atF (n : Nat) (f : Nat → Int32) (i : Int32) : Int32 := if 0 ≤ i.toInt ∧ i.toInt < (n : Int) then f i.toNatClampNeg else -1
theorem atF_in {n j : Nat} {f : Nat → Int32} (h : j < n) (hn : n < 2147483648) : atF n f (nI j) = f j := by
  unfold atF; rw [nI_toInt (by omega), if_pos (by omega), nI_clamp (by omega)]
theorem atF_out {n : Nat} {f : Nat → Int32} {i : Int32} (h : i.toInt < 0 ∨ (n : Int) ≤ i.toInt) : atF n f i = -1 := by
  unfold atF; rw [if_neg (by omega)]
/-- a row with another value at an index, if it is there -/
def stF (n : Nat) (f : Nat → Int32) (i x : Int32) : Nat → Int32 := if 0 ≤ i.toInt ∧ i.toInt < (n : Int) then upd f i.toNatClampNeg x else f
theorem stF_in {n j : Nat} {f : Nat → Int32} {x : Int32} (h : j < n) (hn : n < 2147483648) : stF n f (nI j) x = upd f j x := by
  unfold stF; rw [nI_toInt (by omega), if_pos (by omega), nI_clamp (by omega)]
theorem stF_out {n : Nat} {f : Nat → Int32} {i x : Int32} (h : i.toInt < 0 ∨ (n : Int) ≤ i.toInt) : stF n f i x = f := by
  unfold stF; rw [if_neg (by omega)]
def cpF (m : Nat) (f1 f2 : Nat → Int32) : Nat → Int32 := fun j => if j < m then f1 j else f2 j
theorem cpF_0 (f1 f2 : Nat → Int32) : cpF 0 f1 f2 = f2 := by funext j; simp [cpF]
theorem cpF_s (m : Nat) (f1 f2 : Nat → Int32) : upd (cpF m f1 f2) m (f1 m) = cpF (m + 1) f1 f2 := by
  funext j; unfold upd cpF
  by_cases h : j = m
  · subst h; simp
  · rw [if_neg h]
    by_cases h2 : j < m
    · rw [if_pos h2, if_pos (by omega)]
    · rw [if_neg h2, if_neg (by omega)]
theorem cpF_in {m j : Nat} {f1 f2 : Nat → Int32} (h : j < m) : cpF m f1 f2 j = f1 j := by simp [cpF, h]

set_option maxRecDepth 100000 in
set_option maxHeartbeats 4000000 in
theorem c_X7_at (l : Launch) (g : fG) (N : Nat) (ct : Nat → va_E) (k n : Nat) (f : Nat → Int32) (i : Int32) (hn : n < 2147483648) (hk : k < N) (hc : ct k = .inl (fcI g, n, .inl f)) : Met l yX7_at (wsU yX7_at cX7_at 2 (some .int)) rX7_at (fPre g N ct [.ref (fa g k), .int i]) (fQpi (fun r => r = atF n f i)) 0 0 (fB g) := by
  refine fs_start (own := RX7) (lv0 := [(0, .ref (fa g k)), (1, .int i)]) (by decide) rfl (Nat.le_of_ble_eq_true rfl) rfl ?_
  intro p e s m args below meth c ls E hr hlk hnm hP hl hS
  have hx := E.1.1
  have hb := E.1.2.1
  refine lv_iload_n hx hb dX7_at_0 rfl (lv_at hl 1 rfl) ?_
  refine lv_if_lt (tgt := 16) hx hb dX7_at_1 (by decide) (fun c_1 => ?_) (fun c_1 => ?_)
  · rw [fz_lt] at c_1
    refine lv_iconst (v := (-1)) hx hb dX7_at_16 (by decide) ?_
    refine fs_piret E hr hlk hS dX7_at_17 ?_
    exact (atF_out (by omega)).symm
  · rw [fz_lt] at c_1
    refine lv_iload_n hx hb dX7_at_4 rfl (lv_at hl 1 rfl) ?_
    refine lv_aload_n hx hb dX7_at_5 rfl (lv_at hl 0 rfl) ?_
    refine fs_alenI E hP (k := k) hc hk dX7_at_6 ?_
    refine lv_icmp_ge (tgt := 16) hx hb dX7_at_7 (by decide) (fun c_7 => ?_) (fun c_7 => ?_)
    · rw [fn_ge (by omega)] at c_7
      refine lv_iconst (v := (-1)) hx hb dX7_at_16 (by decide) ?_
      refine fs_piret E hr hlk hS dX7_at_17 ?_
      exact (atF_out (by omega)).symm
    · rw [fn_ge (by omega)] at c_7
      refine lv_aload_n hx hb dX7_at_10 rfl (lv_at hl 0 rfl) ?_
      refine lv_iload_n hx hb dX7_at_11 rfl (lv_at hl 1 rfl) ?_
      refine fs_iald E hP (k := k) hc hk (fin_of (by omega) (by omega)) dX7_at_12 ?_
      refine lv_goto (tgt := 17) hx hb dX7_at_13 (by decide) ?_
      refine fs_piret E hr hlk hS dX7_at_17 ?_
      exact (if_pos (by omega)).symm

set_option maxRecDepth 100000 in
set_option maxHeartbeats 4000000 in
theorem c_X7_setAt (l : Launch) (g : fG) (N : Nat) (ct : Nat → va_E) (k n : Nat) (f : Nat → Int32) (i x : Int32) (hn : n < 2147483648) (hk : k < N) (hc : ct k = .inl (fcI g, n, .inl f)) : Met l yX7_setAt (wsU yX7_setAt cX7_setAt 3 none) rX7_setAt (fPre g N ct [.ref (fa g k), .int i, .int x]) (fQv g N (fun ct1 => ct1 = fu ct k (.inl (fcI g, n, .inl (stF n f i x))))) 0 0 (fB g) := by
  refine fs_start (own := RX7) (lv0 := [(0, .ref (fa g k)), (1, .int i), (2, .int x)]) (by decide) rfl (Nat.le_of_ble_eq_true rfl) rfl ?_
  intro p e s m args below meth c ls E hr hlk hnm hP hl hS
  have hx := E.1.1
  have hb := E.1.2.1
  refine lv_iload_n hx hb dX7_setAt_0 rfl (lv_at hl 1 rfl) ?_
  refine lv_if_lt (tgt := 14) hx hb dX7_setAt_1 (by decide) (fun c_1 => ?_) (fun c_1 => ?_)
  · rw [fz_lt] at c_1
    refine fs_vret E hr hlk hP hS dX7_setAt_14 ?_
    rw [stF_out (by omega), fu_same hc]
  · rw [fz_lt] at c_1
    refine lv_iload_n hx hb dX7_setAt_4 rfl (lv_at hl 1 rfl) ?_
    refine lv_aload_n hx hb dX7_setAt_5 rfl (lv_at hl 0 rfl) ?_
    refine fs_alenI E hP (k := k) hc hk dX7_setAt_6 ?_
    refine lv_icmp_ge (tgt := 14) hx hb dX7_setAt_7 (by decide) (fun c_7 => ?_) (fun c_7 => ?_)
    · rw [fn_ge (by omega)] at c_7
      refine fs_vret E hr hlk hP hS dX7_setAt_14 ?_
      rw [stF_out (by omega), fu_same hc]
    · rw [fn_ge (by omega)] at c_7
      refine lv_aload_n hx hb dX7_setAt_10 rfl (lv_at hl 0 rfl) ?_
      refine lv_iload_n hx hb dX7_setAt_11 rfl (lv_at hl 1 rfl) ?_
      refine lv_iload_n hx hb dX7_setAt_12 rfl (lv_at hl 2 rfl) ?_
      refine fs_iast E hP hS (k := k) hc hk (fin_of (by omega) (by omega)) dX7_setAt_13 (fun ct_1 H locs q_2 hP hS => ?_)
      have h_3 : ct_1 k = .inl (fcI g, n, .inl (upd f i.toNatClampNeg x)) := by rw [q_2]; exact fu_eq _ _ _
      refine fs_vret E hr hlk hP hS dX7_setAt_14 ?_
      rw [q_2, stF, if_pos (by omega)]

set_option maxRecDepth 100000 in
set_option maxHeartbeats 4000000 in
theorem c_X7_addAt (l : Launch) (g : fG) (N : Nat) (ct : Nat → va_E) (k n : Nat) (f : Nat → Int32) (i x : Int32) (hn : n < 2147483648) (hk : k < N) (hc : ct k = .inl (fcI g, n, .inl f)) : Met l yX7_addAt (wsU yX7_addAt cX7_addAt 3 none) rX7_addAt (fPre g N ct [.ref (fa g k), .int i, .int x]) (fQv g N (fun ct1 => ct1 = fu ct k (.inl (fcI g, n, .inl (stF n f i (f i.toNatClampNeg + x)))))) 0 0 (fB g) := by
  refine fs_start (own := RX7) (lv0 := [(0, .ref (fa g k)), (1, .int i), (2, .int x)]) (by decide) rfl (Nat.le_of_ble_eq_true rfl) rfl ?_
  intro p e s m args below meth c ls E hr hlk hnm hP hl hS
  have hx := E.1.1
  have hb := E.1.2.1
  refine lv_iload_n hx hb dX7_addAt_0 rfl (lv_at hl 1 rfl) ?_
  refine lv_if_lt (tgt := 17) hx hb dX7_addAt_1 (by decide) (fun c_1 => ?_) (fun c_1 => ?_)
  · rw [fz_lt] at c_1
    refine fs_vret E hr hlk hP hS dX7_addAt_17 ?_
    rw [stF_out (by omega), fu_same hc]
  · rw [fz_lt] at c_1
    refine lv_iload_n hx hb dX7_addAt_4 rfl (lv_at hl 1 rfl) ?_
    refine lv_aload_n hx hb dX7_addAt_5 rfl (lv_at hl 0 rfl) ?_
    refine fs_alenI E hP (k := k) hc hk dX7_addAt_6 ?_
    refine lv_icmp_ge (tgt := 17) hx hb dX7_addAt_7 (by decide) (fun c_7 => ?_) (fun c_7 => ?_)
    · rw [fn_ge (by omega)] at c_7
      refine fs_vret E hr hlk hP hS dX7_addAt_17 ?_
      rw [stF_out (by omega), fu_same hc]
    · rw [fn_ge (by omega)] at c_7
      refine lv_aload_n hx hb dX7_addAt_10 rfl (lv_at hl 0 rfl) ?_
      refine lv_iload_n hx hb dX7_addAt_11 rfl (lv_at hl 1 rfl) ?_
      refine lv_dup2_11 hx hb dX7_addAt_12 rfl rfl ?_
      refine fs_iald E hP (k := k) hc hk (fin_of (by omega) (by omega)) dX7_addAt_13 ?_
      refine lv_iload_n hx hb dX7_addAt_14 rfl (lv_at hl 2 rfl) ?_
      refine lv_iadd hx hb dX7_addAt_15 ?_
      refine fs_iast E hP hS (k := k) hc hk (fin_of (by omega) (by omega)) dX7_addAt_16 (fun ct_1 H locs q_2 hP hS => ?_)
      have h_3 : ct_1 k = .inl (fcI g, n, .inl (upd f i.toNatClampNeg ((f i.toNatClampNeg) + x))) := by rw [q_2]; exact fu_eq _ _ _
      refine fs_vret E hr hlk hP hS dX7_addAt_17 ?_
      rw [q_2, stF, if_pos (by omega)]

set_option maxRecDepth 100000 in
set_option maxHeartbeats 4000000 in
theorem c_X7_watchers (l : Launch) (g : fG) (N : Nat) (ct : Nat → va_E) (k n : Nat) (f : Nat → Int32) (b : Int32) (hn : n < 2147483648) (hk : k < N) (hc : ct k = .inl (fcI g, n, .inl f)) : Met l yX7_watchers (wsU yX7_watchers cX7_watchers 4 (some .int)) rX7_watchers (fPre g N ct [.ref (fa g k), .int b]) (fQpi (fun r => r = nI (cN (fun i => decide (f i = b)) n))) 0 0 (fB g) := by
  refine fs_start (own := RX7) (lv0 := [(0, .ref (fa g k)), (1, .int b)]) (by decide) rfl (Nat.le_of_ble_eq_true rfl) rfl ?_
  intro p e s m args below meth c ls E hr hlk hnm hP hl hS
  have hx := E.1.1
  have hb := E.1.2.1
  refine lv_iconst (v := (nI 0)) hx hb dX7_watchers_0 (by decide) ?_
  refine lv_istore_n (lv' := [(2, .int (nI 0)), (0, .ref (fa g k)), (1, .int b)]) hx hb dX7_watchers_1 rfl hl (by decide) rfl (fun ls hl => ?_)
  refine lv_iconst (v := (nI 0)) hx hb dX7_watchers_2 (by decide) ?_
  refine lv_istore_n (lv' := [(3, .int (nI 0)), (2, .int (nI 0)), (0, .ref (fa g k)), (1, .int b)]) hx hb dX7_watchers_3 rfl hl (by decide) rfl (fun ls hl => ?_)
  refine fs_indP (g := g) (St := Nat) (fun (i : Nat) (ls : Array Slot) => lv_has ls 4 [(0, .ref (fa g k)), (1, .int b), (2, .int (nI (cN (fun i => decide (f i = b)) i))), (3, .int (nI i))] ∧ i ≤ n) (fun (i : Nat) => n - i) ?_ 0 ls _ ⟨lv_sub hl [2, 3, 1, 0] rfl, Nat.zero_le _⟩ hS
  clear hl hS
  intro st ls locs hI hS ih
  obtain ⟨i, rfl⟩ : ∃ z, z = st := ⟨_, rfl⟩
  obtain ⟨hl, hI⟩ := hI
  refine lv_iload_n hx hb dX7_watchers_4 rfl (lv_at hl 3 rfl) ?_
  refine lv_aload_n hx hb dX7_watchers_5 rfl (lv_at hl 0 rfl) ?_
  refine fs_alenI E hP (k := k) hc hk dX7_watchers_6 ?_
  refine lv_icmp_ge (tgt := 26) hx hb dX7_watchers_7 (by decide) (fun c_7 => ?_) (fun c_7 => ?_)
  · rw [nI_leI (by omega) (by omega)] at c_7
    refine lv_iload_n hx hb dX7_watchers_26 rfl (lv_at hl 2 rfl) ?_
    refine fs_piret E hr hlk hS dX7_watchers_27 ?_
    rw [show n = i by omega]
  · rw [nI_leI (by omega) (by omega)] at c_7
    refine lv_aload_n hx hb dX7_watchers_10 rfl (lv_at hl 0 rfl) ?_
    refine lv_iload_n hx hb dX7_watchers_11 rfl (lv_at hl 3 rfl) ?_
    refine fs_iald E hP (k := k) hc hk (vp_in_nI (by omega) (by omega)) dX7_watchers_12 ?_
    refine fs_vi (y := f i) (congrArg f (nI_clamp (by omega))) ?_
    refine lv_iload_n hx hb dX7_watchers_13 rfl (lv_at hl 1 rfl) ?_
    refine lv_icmp_ne (tgt := 20) hx hb dX7_watchers_14 (by decide) (fun c_14 => ?_) (fun c_14 => ?_)
    · have e : nI (cN (fun i => decide (f i = b)) i) = nI (cN (fun i => decide (f i = b)) (i + 1)) := by rw [cN_f (decide_eq_false c_14)]
      rw [e] at hl
      refine lv_iinc (v := (nI (i + 1))) (lv' := [(3, .int (nI (i + 1))), (0, .ref (fa g k)), (1, .int b), (2, .int (nI (cN (fun i => decide (f i = b)) (i + 1))))]) hx hb dX7_watchers_20 hl (k := 3) rfl (nI_1 _) (by decide) rfl (fun ls hl => ?_)
      refine lv_goto (tgt := 4) hx hb dX7_watchers_23 (by decide) ?_
      exact ih (i + 1) ls _ (by (try dsimp only); omega) ⟨lv_sub hl [1, 2, 3, 0] rfl, by omega⟩ hS
    · refine lv_iinc (v := (nI (cN (fun i => decide (f i = b)) (i + 1)))) (lv' := [(2, .int (nI (cN (fun i => decide (f i = b)) (i + 1)))), (0, .ref (fa g k)), (1, .int b), (3, .int (nI i))]) hx hb dX7_watchers_17 hl (k := 2) rfl (by rw [cN_t (decide_eq_true c_14)]; exact nI_1 _) (by decide) rfl (fun ls hl => ?_)
      refine lv_iinc (v := (nI (i + 1))) (lv' := [(3, .int (nI (i + 1))), (2, .int (nI (cN (fun i => decide (f i = b)) (i + 1)))), (0, .ref (fa g k)), (1, .int b)]) hx hb dX7_watchers_20 hl (k := 3) rfl (nI_1 _) (by decide) rfl (fun ls hl => ?_)
      refine lv_goto (tgt := 4) hx hb dX7_watchers_23 (by decide) ?_
      exact ih (i + 1) ls _ (by (try dsimp only); omega) ⟨lv_sub hl [2, 3, 1, 0] rfl, by omega⟩ hS

set_option maxRecDepth 100000 in
set_option maxHeartbeats 4000000 in
theorem c_X7_fillRow (l : Launch) (g : fG) (N : Nat) (ct : Nat → va_E) (k n : Nat) (f : Nat → Int32) (x : Int32) (hn : n < 2147483648) (hk : k < N) (hc : ct k = .inl (fcI g, n, .inl f)) : Met l yX7_fillRow (wsU yX7_fillRow cX7_fillRow 3 none) rX7_fillRow (fPre g N ct [.ref (fa g k), .int x]) (fQv g N (fun ct1 => ct1 = fu ct k (.inl (fcI g, n, .inl (cpF n (fun _ => x) f))))) 0 0 (fB g) := by
  refine fs_start (own := RX7) (lv0 := [(0, .ref (fa g k)), (1, .int x)]) (by decide) rfl (Nat.le_of_ble_eq_true rfl) rfl ?_
  intro p e s m args below meth c ls E hr hlk hnm hP hl hS
  have hx := E.1.1
  have hb := E.1.2.1
  refine lv_iconst (v := (nI 0)) hx hb dX7_fillRow_0 (by decide) ?_
  refine lv_istore_n (lv' := [(2, .int (nI 0)), (0, .ref (fa g k)), (1, .int x)]) hx hb dX7_fillRow_1 rfl hl (by decide) rfl (fun ls hl => ?_)
  refine fs_ind (g := g) (N := N) (St := Nat) (fun (i : Nat) (ct_1 : Nat → va_E) (ls : Array Slot) => lv_has ls 3 [(0, .ref (fa g k)), (1, .int x), (2, .int (nI i))] ∧ ct_1 = fu ct k (.inl (fcI g, n, .inl (cpF i (fun _ => x) f))) ∧ i ≤ n) (fun (i : Nat) => n - i) ?_ 0 _ _ ls _ ⟨lv_sub hl [1, 2, 0] rfl, by rw [cpF_0, fu_same hc], Nat.zero_le _⟩ hP hS
  clear hl hP hS
  intro st ct_1 H ls locs hI hP hS ih
  obtain ⟨i, rfl⟩ : ∃ z, z = st := ⟨_, rfl⟩
  obtain ⟨hl, hI⟩ := hI
  have hq : ct_1 k = .inl (fcI g, n, .inl (cpF i (fun _ => x) f)) := by rw [hI.1]; exact fu_eq _ _ _
  have hI2 := hI.2
  refine lv_iload_n hx hb dX7_fillRow_2 rfl (lv_at hl 2 rfl) ?_
  refine lv_aload_n hx hb dX7_fillRow_3 rfl (lv_at hl 0 rfl) ?_
  refine fs_alenI E hP (k := k) hq hk dX7_fillRow_4 ?_
  refine lv_icmp_ge (tgt := 18) hx hb dX7_fillRow_5 (by decide) (fun c_5 => ?_) (fun c_5 => ?_)
  · rw [nI_leI (by omega) (by omega)] at c_5
    refine fs_vret E hr hlk hP hS dX7_fillRow_18 ?_
    rw [hI.1, show i = n by omega]
  · rw [nI_leI (by omega) (by omega)] at c_5
    refine lv_aload_n hx hb dX7_fillRow_8 rfl (lv_at hl 0 rfl) ?_
    refine lv_iload_n hx hb dX7_fillRow_9 rfl (lv_at hl 2 rfl) ?_
    refine lv_iload_n hx hb dX7_fillRow_10 rfl (lv_at hl 1 rfl) ?_
    refine fs_iast E hP hS (k := k) hq hk (vp_in_nI (by omega) (by omega)) dX7_fillRow_11 (fun ct_2 H locs q_3 hP hS => ?_)
    rw [nI_clamp (by omega)] at q_3
    have h_4 : ct_2 k = .inl (fcI g, n, .inl (upd (cpF i (fun _ => x) f) i x)) := by rw [q_3]; exact fu_eq _ _ _
    refine lv_iinc (v := (nI (i + 1))) (lv' := [(2, .int (nI (i + 1))), (0, .ref (fa g k)), (1, .int x)]) hx hb dX7_fillRow_12 hl (k := 2) rfl (nI_1 _) (by decide) rfl (fun ls hl => ?_)
    refine lv_goto (tgt := 2) hx hb dX7_fillRow_15 (by decide) ?_
    exact ih (i + 1) _ _ ls _ (by (try dsimp only); omega) ⟨lv_sub hl [1, 2, 0] rfl, by rw [q_3, hI.1, fu_fu]; exact congrArg (fun z => fu ct k (.inl (fcI g, n, .inl z))) (cpF_s i (fun _ => x) f), by omega⟩ hP hS

set_option maxRecDepth 100000 in
set_option maxHeartbeats 4000000 in
theorem c_X7_copyRow (l : Launch) (g : fG) (N : Nat) (ct : Nat → va_E) (k k2 n : Nat) (f f2 : Nat → Int32) (hn : n < 2147483648) (hk : k < N) (hk2 : k2 < N) (hne : k ≠ k2) (hc : ct k = .inl (fcI g, n, .inl f)) (hc2 : ct k2 = .inl (fcI g, n, .inl f2)) : Met l yX7_copyRow (wsU yX7_copyRow cX7_copyRow 3 none) rX7_copyRow (fPre g N ct [.ref (fa g k), .ref (fa g k2)]) (fQv g N (fun ct1 => ct1 = fu ct k2 (.inl (fcI g, n, .inl (cpF n f f2))))) 0 0 (fB g) := by
  refine fs_start (own := RX7) (lv0 := [(0, .ref (fa g k)), (1, .ref (fa g k2))]) (by decide) rfl (Nat.le_of_ble_eq_true rfl) rfl ?_
  intro p e s m args below meth c ls E hr hlk hnm hP hl hS
  have hx := E.1.1
  have hb := E.1.2.1
  refine lv_iconst (v := (nI 0)) hx hb dX7_copyRow_0 (by decide) ?_
  refine lv_istore_n (lv' := [(2, .int (nI 0)), (0, .ref (fa g k)), (1, .ref (fa g k2))]) hx hb dX7_copyRow_1 rfl hl (by decide) rfl (fun ls hl => ?_)
  refine fs_ind (g := g) (N := N) (St := Nat) (fun (i : Nat) (ct_1 : Nat → va_E) (ls : Array Slot) => lv_has ls 3 [(0, .ref (fa g k)), (1, .ref (fa g k2)), (2, .int (nI i))] ∧ ct_1 = fu ct k2 (.inl (fcI g, n, .inl (cpF i f f2))) ∧ i ≤ n) (fun (i : Nat) => n - i) ?_ 0 _ _ ls _ ⟨lv_sub hl [1, 2, 0] rfl, by rw [cpF_0, fu_same hc2], Nat.zero_le _⟩ hP hS
  clear hl hP hS
  intro st ct_1 H ls locs hI hP hS ih
  obtain ⟨i, rfl⟩ : ∃ z, z = st := ⟨_, rfl⟩
  obtain ⟨hl, hI⟩ := hI
  have hq : ct_1 k2 = .inl (fcI g, n, .inl (cpF i f f2)) := by rw [hI.1]; exact fu_eq _ _ _
  have hq2 : ct_1 k = .inl (fcI g, n, .inl f) := by rw [hI.1]; exact (fu_ne (by omega)).trans hc
  have hI2 := hI.2
  refine lv_iload_n hx hb dX7_copyRow_2 rfl (lv_at hl 2 rfl) ?_
  refine lv_aload_n hx hb dX7_copyRow_3 rfl (lv_at hl 0 rfl) ?_
  refine fs_alenI E hP (k := k) hq2 hk dX7_copyRow_4 ?_
  refine lv_icmp_ge (tgt := 26) hx hb dX7_copyRow_5 (by decide) (fun c_5 => ?_) (fun c_5 => ?_)
  · rw [nI_leI (by omega) (by omega)] at c_5
    refine fs_vret E hr hlk hP hS dX7_copyRow_26 ?_
    rw [hI.1, show i = n by omega]
  · rw [nI_leI (by omega) (by omega)] at c_5
    refine lv_iload_n hx hb dX7_copyRow_8 rfl (lv_at hl 2 rfl) ?_
    refine lv_aload_n hx hb dX7_copyRow_9 rfl (lv_at hl 1 rfl) ?_
    refine fs_alenI E hP (k := k2) hq hk2 dX7_copyRow_10 ?_
    refine lv_icmp_ge (tgt := 26) hx hb dX7_copyRow_11 (by decide) (fun c_11 => ?_) (fun c_11 => ?_)
    · rw [nI_leI (by omega) (by omega)] at c_11
      refine fs_vret E hr hlk hP hS dX7_copyRow_26 ?_
      rw [hI.1, show i = n by omega]
    · rw [nI_leI (by omega) (by omega)] at c_11
      refine lv_aload_n hx hb dX7_copyRow_14 rfl (lv_at hl 1 rfl) ?_
      refine lv_iload_n hx hb dX7_copyRow_15 rfl (lv_at hl 2 rfl) ?_
      refine lv_aload_n hx hb dX7_copyRow_16 rfl (lv_at hl 0 rfl) ?_
      refine lv_iload_n hx hb dX7_copyRow_17 rfl (lv_at hl 2 rfl) ?_
      refine fs_iald E hP (k := k) hq2 hk (vp_in_nI (by omega) (by omega)) dX7_copyRow_18 ?_
      refine fs_vi (y := f i) (congrArg f (nI_clamp (by omega))) ?_
      refine fs_iast E hP hS (k := k2) hq hk2 (vp_in_nI (by omega) (by omega)) dX7_copyRow_19 (fun ct_2 H locs q_3 hP hS => ?_)
      rw [nI_clamp (by omega)] at q_3
      have h_4 : ct_2 k2 = .inl (fcI g, n, .inl (upd (cpF i f f2) i (f i))) := by rw [q_3]; exact fu_eq _ _ _
      have h_5 : ct_2 k = .inl (fcI g, n, .inl f) := by rw [q_3]; exact (fu_ne (by omega)).trans hq2
      refine lv_iinc (v := (nI (i + 1))) (lv' := [(2, .int (nI (i + 1))), (0, .ref (fa g k)), (1, .ref (fa g k2))]) hx hb dX7_copyRow_20 hl (k := 2) rfl (nI_1 _) (by decide) rfl (fun ls hl => ?_)
      refine lv_goto (tgt := 2) hx hb dX7_copyRow_23 (by decide) ?_
      exact ih (i + 1) _ _ ls _ (by (try dsimp only); omega) ⟨lv_sub hl [1, 2, 0] rfl, by rw [q_3, hI.1, fu_fu]; exact congrArg (fun z => fu ct k2 (.inl (fcI g, n, .inl z))) (cpF_s i f f2), by omega⟩ hP hS
