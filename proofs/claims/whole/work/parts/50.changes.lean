/-- a row with 121 numbers of another row in it -/
def mvF (fa fb : Nat → Int32) (p q i : Nat) : Nat → Int32 := fun j => if q ≤ j ∧ j < q + i then fa (p + (j - q)) else fb j
theorem mvF_0 (fa fb : Nat → Int32) (p q : Nat) : mvF fa fb p q 0 = fb := by funext j; unfold mvF; rw [if_neg (by omega)]
theorem mvF_s (fa fb : Nat → Int32) (p q i : Nat) : upd (mvF fa fb p q i) (q + i) (fa (p + i)) = mvF fa fb p q (i + 1) := by
  funext j; unfold upd mvF
  by_cases h : j = q + i
  · subst h; rw [if_pos rfl, if_pos (by omega), show q + i - q = i by omega]
  · rw [if_neg h]
    by_cases h2 : q ≤ j ∧ j < q + i
    · rw [if_pos h2, if_pos (by omega)]
    · rw [if_neg h2, if_neg (by omega)]
theorem mvF_in {fa fb : Nat → Int32} {p q i j : Nat} (h : j < i) : mvF fa fb p q i (q + j) = fa (p + j) := by unfold mvF; rw [if_pos (by omega), show q + j - q = j by omega]
theorem mvF_out {fa fb : Nat → Int32} {p q i j : Nat} (h : j < q ∨ q + i ≤ j) : mvF fa fb p q i j = fb j := by unfold mvF; rw [if_neg (by omega)]
/-- the reference's history -/
def RH (k : Nat) (hs : Nat → Nat → Int32) (z : Nat → Int32) (F : Nat → Nat → Int32) : Prop := z 0 = nI k ∧ k ≤ 6 ∧ ∀ i j, i < k → j < 121 → F 1 (121 * (k - 1 - i) + j) = hs i j
theorem RH.lo {k : Nat} {σ : Nat → Int32} {hs : Nat → Nat → Int32} {z z1 : Nat → Int32} {F F1 : Nat → Nat → Int32} (H : RH k hs z F) (hT : SR σ F) (hk : k < 6) (hz : z1 0 = nI (k + 1)) (hf : F1 1 = mvF (F 0) (F 1) 0 (121 * k) 121) : RH (min (k + 1) 6) (recH σ hs) z1 F1 := by
  rw [Nat.min_eq_left (by omega)]
  refine ⟨hz, by omega, fun i j hi hj => ?_⟩
  rw [hf]
  by_cases y : i = 0
  · subst y
    rw [show k + 1 - 1 - 0 = k by omega, mvF_in hj, Nat.zero_add]; exact hT j hj
  · have e : recH σ hs i = hs (i - 1) := if_neg y
    rw [e, show k + 1 - 1 - i = k - 1 - (i - 1) by omega, mvF_out (by omega)]
    exact H.2.2 (i - 1) j (by omega) hj
theorem RH.hi {k : Nat} {σ : Nat → Int32} {hs : Nat → Nat → Int32} {z z1 : Nat → Int32} {F F1 : Nat → Nat → Int32} {f : Nat → Int32} (H : RH k hs z F) (hT : SR σ F) (hk : k = 6) (hz : z1 0 = nI 6) (hg : ∀ j, j < 605 → f j = F 1 (j + 121)) (hf : F1 1 = mvF (F 0) f 0 605 121) : RH (min (k + 1) 6) (recH σ hs) z1 F1 := by
  subst hk
  rw [Nat.min_eq_right (by omega)]
  refine ⟨hz, by omega, fun i j hi hj => ?_⟩
  rw [hf]
  by_cases y : i = 0
  · subst y
    rw [show 121 * (6 - 1 - 0) = 605 by omega, mvF_in hj, Nat.zero_add]; exact hT j hj
  · have e : recH σ hs i = hs (i - 1) := if_neg y
    rw [e, mvF_out (by omega), hg _ (by omega), ← H.2.2 (i - 1) j (by omega) hj]
    exact congrArg (F 1) (by omega)

set_option maxRecDepth 100000 in
set_option maxHeartbeats 4000000 in
theorem c_X8_moves (l : Launch) (g : fG) (N : Nat) (ct : Nat → va_E) (ka kb na nb p0 q0 : Nat) (f1 f2 : Nat → Int32) (hka : ka < N) (hkb : kb < N) (hne : ka ≠ kb) (hp : p0 + 121 ≤ na) (hq : q0 + 121 ≤ nb) (hn1 : na < 10000) (hn2 : nb < 10000) (hca : ct ka = .inl (fcI g, na, .inl f1)) (hcb : ct kb = .inl (fcI g, nb, .inl f2)) : Met l yX8_moves (wsU yX8_moves cX8_moves 5 none) rX8_moves (fPre g N ct [.ref (fa g ka), .int (nI p0), .ref (fa g kb), .int (nI q0)]) (fQv g N (fun ct1 => ct1 = fu ct kb (.inl (fcI g, nb, .inl (mvF f1 f2 p0 q0 121))))) 0 0 (fB g) := by
  refine fs_start (own := RX8) (lv0 := [(0, .ref (fa g ka)), (1, .int (nI p0)), (2, .ref (fa g kb)), (3, .int (nI q0))]) (by decide) rfl (Nat.le_of_ble_eq_true rfl) rfl ?_
  intro p e s m args below meth c ls E hr hlk hnm hP hl hS
  have hx := E.1.1
  have hb := E.1.2.1
  refine lv_iconst (v := (nI 0)) hx hb dX8_moves_0 (by decide) ?_
  refine lv_istore (lv' := [(4, .int (nI 0)), (0, .ref (fa g ka)), (1, .int (nI p0)), (2, .ref (fa g kb)), (3, .int (nI q0))]) hx hb dX8_moves_1 hl (by decide) rfl (fun ls hl => ?_)
  refine fs_ind (g := g) (N := N) (St := Nat) (fun (i : Nat) (ct_1 : Nat → va_E) (ls : Array Slot) => lv_has ls 5 [(0, .ref (fa g ka)), (1, .int (nI p0)), (2, .ref (fa g kb)), (3, .int (nI q0)), (4, .int (nI i))] ∧ ct_1 = fu ct kb (.inl (fcI g, nb, .inl (mvF f1 f2 p0 q0 i))) ∧ i ≤ 121) (fun (i : Nat) => 121 - i) ?_ 0 _ _ ls _ ⟨lv_sub hl [1, 2, 3, 4, 0] rfl, by rw [mvF_0, fu_same hcb], Nat.zero_le _⟩ hP hS
  clear hl hP hS
  intro st ct_1 H ls locs hI hP hS ih
  obtain ⟨i, rfl⟩ : ∃ z, z = st := ⟨_, rfl⟩
  obtain ⟨hl, hI⟩ := hI
  have hq1 : ct_1 kb = .inl (fcI g, nb, .inl (mvF f1 f2 p0 q0 i)) := by rw [hI.1]; exact fu_eq _ _ _
  have hq2 : ct_1 ka = .inl (fcI g, na, .inl f1) := by rw [hI.1]; exact (fu_ne (by omega)).trans hca
  have hI2 := hI.2
  refine lv_iload hx hb dX8_moves_3 (lv_at hl 4 rfl) ?_
  refine lv_bipush (v := (nI 121)) hx hb dX8_moves_5 (by decide) ?_
  refine lv_icmp_ge (tgt := 28) hx hb dX8_moves_7 (by decide) (fun c_7 => ?_) (fun c_7 => ?_)
  · rw [nI_leI (by omega) (by omega)] at c_7
    refine fs_vret E hr hlk hP hS dX8_moves_28 ?_
    rw [hI.1, show i = 121 by omega]
  · rw [nI_leI (by omega) (by omega)] at c_7
    refine lv_aload_n hx hb dX8_moves_10 rfl (lv_at hl 2 rfl) ?_
    refine lv_iload_n hx hb dX8_moves_11 rfl (lv_at hl 3 rfl) ?_
    refine lv_iload hx hb dX8_moves_12 (lv_at hl 4 rfl) ?_
    refine lv_iadd hx hb dX8_moves_14 ?_
    refine fs_vi (y := nI (q0 + i)) (nI_add _ _) ?_
    refine lv_aload_n hx hb dX8_moves_15 rfl (lv_at hl 0 rfl) ?_
    refine lv_iload_n hx hb dX8_moves_16 rfl (lv_at hl 1 rfl) ?_
    refine lv_iload hx hb dX8_moves_17 (lv_at hl 4 rfl) ?_
    refine lv_iadd hx hb dX8_moves_19 ?_
    refine fs_vi (y := nI (p0 + i)) (nI_add _ _) ?_
    refine fs_iald E hP (k := ka) hq2 hka (vp_in_nI (by omega) (by omega)) dX8_moves_20 ?_
    refine fs_vi (y := f1 (p0 + i)) (congrArg f1 (nI_clamp (by omega))) ?_
    refine fs_iast E hP hS (k := kb) hq1 hkb (vp_in_nI (by omega) (by omega)) dX8_moves_21 (fun ct_2 H locs q_3 hP hS => ?_)
    rw [nI_clamp (by omega)] at q_3
    have h_4 : ct_2 kb = .inl (fcI g, nb, .inl (upd (mvF f1 f2 p0 q0 i) (q0 + i) (f1 (p0 + i)))) := by rw [q_3]; exact fu_eq _ _ _
    have h_5 : ct_2 ka = .inl (fcI g, na, .inl f1) := by rw [q_3]; exact (fu_ne (by omega)).trans hq2
    refine lv_iinc (v := (nI (i + 1))) (lv' := [(4, .int (nI (i + 1))), (0, .ref (fa g ka)), (1, .int (nI p0)), (2, .ref (fa g kb)), (3, .int (nI q0))]) hx hb dX8_moves_22 hl (k := 4) rfl (nI_1 _) (by decide) rfl (fun ls hl => ?_)
    refine lv_goto (tgt := 3) hx hb dX8_moves_25 (by decide) ?_
    exact ih (i + 1) _ _ ls _ (by (try dsimp only); omega) ⟨lv_sub hl [1, 2, 3, 4, 0] rfl, by rw [q_3, hI.1, fu_fu]; exact congrArg (fun z => fu ct kb (.inl (fcI g, nb, .inl z))) (mvF_s f1 f2 p0 q0 i), by omega⟩ hP hS

set_option maxRecDepth 100000 in
set_option maxHeartbeats 4000000 in
theorem c_X8_setHow (l : Launch) (g : fG) (N : Nat) (ct : Nat → va_E) (z : Nat → Int32) (F : Nat → Nat → Int32) (σ : Nat → Int32) (hN : 249 ≤ N) (hG : Good σ) (hM : MA g ct z F) (hT : SR σ F) (r x : Nat) (hr0 : r < 20) : Met l yX8_setHow (wsU yX8_setHow cX8_setHow 3 none) rX8_setHow (fPre g N ct [.ref (fa g 239), .int (nI r), .int (nI x)]) (fQv g N (fun ct1 => ct1 = fu ct 240 (.inl (fcI g, 121, .inl (upd (F 0) (25 + 5 * r) (nI x)))))) 0 0 (fB g) := by
  refine fs_start (own := RX8) (lv0 := [(0, .ref (fa g 239)), (1, .int (nI r)), (2, .int (nI x))]) (by decide) rfl (Nat.le_of_ble_eq_true rfl) rfl ?_
  intro p e s m args below meth c ls E hr hlk hnm hP hl hS
  have hx := E.1.1
  have hb := E.1.2.1
  have m_1o : ct 239 = .inr (8, [.ref (fa g 240), .ref (fa g 241), .int (z 0), .ref (fa g 242), .ref (fa g 243), .ref (fa g 244), .int (z 1), .ref (fa g 245), .int (z 2), .ref (fa g 246), .ref (fa g 247), .ref (fa g 248), .int (z 3), .int (z 4), .int (z 5), .int (z 6), .int (z 7), .int (z 8), .int (z 9)]) := (hM).1
  have m_1r0 : ct 240 = .inl (fcI g, 121, .inl (F 0)) := (hM).2.1
  have m_1r1 : ct 241 = .inl (fcI g, 726, .inl (F 1)) := (hM).2.2.1
  have m_1r2 : ct 242 = .inl (fcI g, 242, .inl (F 2)) := (hM).2.2.2.1
  have m_1r3 : ct 243 = .inl (fcI g, 2, .inl (F 3)) := (hM).2.2.2.2.1
  have m_1r4 : ct 244 = .inl (fcI g, 60, .inl (F 4)) := (hM).2.2.2.2.2.1
  have m_1r5 : ct 245 = .inl (fcI g, 6, .inl (F 5)) := (hM).2.2.2.2.2.2.1
  have m_1r6 : ct 246 = .inl (fcI g, 36, .inl (F 6)) := (hM).2.2.2.2.2.2.2.1
  have m_1r7 : ct 247 = .inl (fcI g, 20, .inl (F 7)) := (hM).2.2.2.2.2.2.2.2.1
  have m_1r8 : ct 248 = .inl (fcI g, 20, .inl (F 8)) := (hM).2.2.2.2.2.2.2.2.2
  have hn3 := hG.n3
  have hn6 := hG.n6
  have hk20 := hG.k
  refine lv_aload_n hx hb dX8_setHow_0 rfl (lv_at hl 0 rfl) ?_
  refine fs_get E hP (k := 239) (v := .ref (fa g 240)) 0 fc8 m_1o (by omega) (by decide) (wm wl_5 (i := 0) rfl) rfl dX8_setHow_1 ?_
  refine lv_bipush (v := (nI 21)) hx hb dX8_setHow_4 (by decide) ?_
  refine lv_iconst (v := (nI 5)) hx hb dX8_setHow_6 (by decide) ?_
  refine lv_iload_n hx hb dX8_setHow_7 rfl (lv_at hl 1 rfl) ?_
  refine lv_imul hx hb dX8_setHow_8 ?_
  refine fs_vi (y := nI (5 * r)) (pk_mul _ _) ?_
  refine lv_iadd hx hb dX8_setHow_9 ?_
  refine fs_vi (y := nI (21 + 5 * r)) (nI_add _ _) ?_
  refine lv_iconst (v := (nI 4)) hx hb dX8_setHow_10 (by decide) ?_
  refine lv_iadd hx hb dX8_setHow_11 ?_
  refine fs_vi (y := nI (21 + 5 * r + 4)) (nI_add _ _) ?_
  refine lv_iload_n hx hb dX8_setHow_12 rfl (lv_at hl 2 rfl) ?_
  refine fs_iast E hP hS (k := 240) m_1r0 (by omega) (vp_in_nI (by omega) (by omega)) dX8_setHow_13 (fun ct_2 H locs q_3 hP hS => ?_)
  rw [nI_clamp (by omega)] at q_3
  have h_4 : ct_2 239 = .inr (8, [.ref (fa g 240), .ref (fa g 241), .int (z 0), .ref (fa g 242), .ref (fa g 243), .ref (fa g 244), .int (z 1), .ref (fa g 245), .int (z 2), .ref (fa g 246), .ref (fa g 247), .ref (fa g 248), .int (z 3), .int (z 4), .int (z 5), .int (z 6), .int (z 7), .int (z 8), .int (z 9)]) := by rw [q_3]; exact (fu_ne (by omega)).trans m_1o
  have h_5 : ct_2 240 = .inl (fcI g, 121, .inl (upd (F 0) (21 + 5 * r + 4) (nI x))) := by rw [q_3]; exact fu_eq _ _ _
  have h_6 : ct_2 241 = .inl (fcI g, 726, .inl (F 1)) := by rw [q_3]; exact (fu_ne (by omega)).trans m_1r1
  have h_7 : ct_2 242 = .inl (fcI g, 242, .inl (F 2)) := by rw [q_3]; exact (fu_ne (by omega)).trans m_1r2
  have h_8 : ct_2 243 = .inl (fcI g, 2, .inl (F 3)) := by rw [q_3]; exact (fu_ne (by omega)).trans m_1r3
  have h_9 : ct_2 244 = .inl (fcI g, 60, .inl (F 4)) := by rw [q_3]; exact (fu_ne (by omega)).trans m_1r4
  have h_10 : ct_2 245 = .inl (fcI g, 6, .inl (F 5)) := by rw [q_3]; exact (fu_ne (by omega)).trans m_1r5
  have h_11 : ct_2 246 = .inl (fcI g, 36, .inl (F 6)) := by rw [q_3]; exact (fu_ne (by omega)).trans m_1r6
  have h_12 : ct_2 247 = .inl (fcI g, 20, .inl (F 7)) := by rw [q_3]; exact (fu_ne (by omega)).trans m_1r7
  have h_13 : ct_2 248 = .inl (fcI g, 20, .inl (F 8)) := by rw [q_3]; exact (fu_ne (by omega)).trans m_1r8
  refine fs_vret E hr hlk hP hS dX8_setHow_14 ?_
  rw [q_3, show 21 + 5 * r + 4 = 25 + 5 * r by omega]

set_option maxRecDepth 100000 in
set_option maxHeartbeats 4000000 in
theorem c_X8_begins (l : Launch) (g : fG) (N : Nat) (ct : Nat → va_E) (z : Nat → Int32) (F : Nat → Nat → Int32) (hN : 249 ≤ N) (hM : MA g ct z F) (n : Nat) (hn3 : 3 ≤ n) (hn6 : n ≤ 6) : Met l yX8_begins (wsU yX8_begins cX8_begins 3 none) rX8_begins (fPre g N ct [.ref (fa g 239), .int (nI n)]) (fQv g N (fun ct1 => ∃ f : Nat → Int32, ct1 = fu ct 240 (.inl (fcI g, 121, .inl f)) ∧ ∀ i, i < 121 → f i = sOpen n i)) 0 0 (fB g) := by
  refine fs_start (own := RX8) (lv0 := [(0, .ref (fa g 239)), (1, .int (nI n))]) (by decide) rfl (Nat.le_of_ble_eq_true rfl) rfl ?_
  intro p e s m args below meth c ls E hr hlk hnm hP hl hS
  have hx := E.1.1
  have hb := E.1.2.1
  have m_1o : ct 239 = .inr (8, [.ref (fa g 240), .ref (fa g 241), .int (z 0), .ref (fa g 242), .ref (fa g 243), .ref (fa g 244), .int (z 1), .ref (fa g 245), .int (z 2), .ref (fa g 246), .ref (fa g 247), .ref (fa g 248), .int (z 3), .int (z 4), .int (z 5), .int (z 6), .int (z 7), .int (z 8), .int (z 9)]) := (hM).1
  have m_1r0 : ct 240 = .inl (fcI g, 121, .inl (F 0)) := (hM).2.1
  have m_1r1 : ct 241 = .inl (fcI g, 726, .inl (F 1)) := (hM).2.2.1
  have m_1r2 : ct 242 = .inl (fcI g, 242, .inl (F 2)) := (hM).2.2.2.1
  have m_1r3 : ct 243 = .inl (fcI g, 2, .inl (F 3)) := (hM).2.2.2.2.1
  have m_1r4 : ct 244 = .inl (fcI g, 60, .inl (F 4)) := (hM).2.2.2.2.2.1
  have m_1r5 : ct 245 = .inl (fcI g, 6, .inl (F 5)) := (hM).2.2.2.2.2.2.1
  have m_1r6 : ct 246 = .inl (fcI g, 36, .inl (F 6)) := (hM).2.2.2.2.2.2.2.1
  have m_1r7 : ct 247 = .inl (fcI g, 20, .inl (F 7)) := (hM).2.2.2.2.2.2.2.2.1
  have m_1r8 : ct 248 = .inl (fcI g, 20, .inl (F 8)) := (hM).2.2.2.2.2.2.2.2.2
  have hnz : ¬ nI n = 0 := fun z => by rw [fz_eqN (by omega)] at z; omega
  refine lv_iconst (v := (nI 0)) hx hb dX8_begins_0 (by decide) ?_
  refine lv_istore_n (lv' := [(2, .int (nI 0)), (0, .ref (fa g 239)), (1, .int (nI n))]) hx hb dX8_begins_1 rfl hl (by decide) rfl (fun ls hl => ?_)
  refine fs_ind (g := g) (N := N) (St := Nat) (fun (k : Nat) (ct_2 : Nat → va_E) (ls : Array Slot) => lv_has ls 3 [(0, .ref (fa g 239)), (1, .int (nI n)), (2, .int (nI k))] ∧ ∃ fy : Nat → Int32, ct_2 = fu ct 240 (.inl (fcI g, 121, .inl fy)) ∧ k ≤ 121 ∧ ∀ j, j < k → fy j = nI 0) (fun k => 121 - k) ?_ 0 _ _ ls _ ⟨lv_sub hl [1, 2, 0] rfl, ⟨_, by rw [fu_same m_1r0], by omega, fun j hj => absurd hj (by omega)⟩⟩ hP hS
  clear hl hP hS
  intro st ct_2 H ls locs hI hP hS ih
  obtain ⟨k, rfl⟩ : ∃ z, z = st := ⟨_, rfl⟩
  obtain ⟨hl, fy, hct0, hI⟩ := hI
  have h_3 : ct_2 239 = .inr (8, [.ref (fa g 240), .ref (fa g 241), .int (z 0), .ref (fa g 242), .ref (fa g 243), .ref (fa g 244), .int (z 1), .ref (fa g 245), .int (z 2), .ref (fa g 246), .ref (fa g 247), .ref (fa g 248), .int (z 3), .int (z 4), .int (z 5), .int (z 6), .int (z 7), .int (z 8), .int (z 9)]) := by rw [hct0]; exact (fu_ne (by omega)).trans m_1o
  have h_4 : ct_2 240 = .inl (fcI g, 121, .inl fy) := by rw [hct0]; exact fu_eq _ _ _
  have h_5 : ct_2 241 = .inl (fcI g, 726, .inl (F 1)) := by rw [hct0]; exact (fu_ne (by omega)).trans m_1r1
  have h_6 : ct_2 242 = .inl (fcI g, 242, .inl (F 2)) := by rw [hct0]; exact (fu_ne (by omega)).trans m_1r2
  have h_7 : ct_2 243 = .inl (fcI g, 2, .inl (F 3)) := by rw [hct0]; exact (fu_ne (by omega)).trans m_1r3
  have h_8 : ct_2 244 = .inl (fcI g, 60, .inl (F 4)) := by rw [hct0]; exact (fu_ne (by omega)).trans m_1r4
  have h_9 : ct_2 245 = .inl (fcI g, 6, .inl (F 5)) := by rw [hct0]; exact (fu_ne (by omega)).trans m_1r5
  have h_10 : ct_2 246 = .inl (fcI g, 36, .inl (F 6)) := by rw [hct0]; exact (fu_ne (by omega)).trans m_1r6
  have h_11 : ct_2 247 = .inl (fcI g, 20, .inl (F 7)) := by rw [hct0]; exact (fu_ne (by omega)).trans m_1r7
  have h_12 : ct_2 248 = .inl (fcI g, 20, .inl (F 8)) := by rw [hct0]; exact (fu_ne (by omega)).trans m_1r8
  have hI1 := hI.1
  refine lv_iload_n hx hb dX8_begins_2 rfl (lv_at hl 2 rfl) ?_
  refine lv_bipush (v := (nI 121)) hx hb dX8_begins_3 (by decide) ?_
  refine lv_icmp_ge (tgt := 21) hx hb dX8_begins_5 (by decide) (fun c_5 => ?_) (fun c_5 => ?_)
  · rw [nI_leI (by omega) (by omega)] at c_5
    refine lv_aload_n hx hb dX8_begins_21 rfl (lv_at hl 0 rfl) ?_
    refine fs_get E hP (k := 239) (v := .ref (fa g 240)) 0 fc8 h_3 (by omega) (by decide) (wm wl_5 (i := 0) rfl) rfl dX8_begins_22 ?_
    refine lv_iconst (v := (nI 0)) hx hb dX8_begins_25 (by decide) ?_
    refine lv_iload_n hx hb dX8_begins_26 rfl (lv_at hl 1 rfl) ?_
    refine fs_iast E hP hS (k := 240) h_4 (by omega) (vp_in_nI (by omega) (by omega)) dX8_begins_27 (fun ct_13 H locs q_14 hP hS => ?_)
    rw [nI_clamp (by omega)] at q_14
    have h_15 : ct_13 239 = .inr (8, [.ref (fa g 240), .ref (fa g 241), .int (z 0), .ref (fa g 242), .ref (fa g 243), .ref (fa g 244), .int (z 1), .ref (fa g 245), .int (z 2), .ref (fa g 246), .ref (fa g 247), .ref (fa g 248), .int (z 3), .int (z 4), .int (z 5), .int (z 6), .int (z 7), .int (z 8), .int (z 9)]) := by rw [q_14]; exact (fu_ne (by omega)).trans h_3
    have h_16 : ct_13 240 = .inl (fcI g, 121, .inl (upd fy 0 (nI n))) := by rw [q_14]; exact fu_eq _ _ _
    have h_17 : ct_13 241 = .inl (fcI g, 726, .inl (F 1)) := by rw [q_14]; exact (fu_ne (by omega)).trans h_5
    have h_18 : ct_13 242 = .inl (fcI g, 242, .inl (F 2)) := by rw [q_14]; exact (fu_ne (by omega)).trans h_6
    have h_19 : ct_13 243 = .inl (fcI g, 2, .inl (F 3)) := by rw [q_14]; exact (fu_ne (by omega)).trans h_7
    have h_20 : ct_13 244 = .inl (fcI g, 60, .inl (F 4)) := by rw [q_14]; exact (fu_ne (by omega)).trans h_8
    have h_21 : ct_13 245 = .inl (fcI g, 6, .inl (F 5)) := by rw [q_14]; exact (fu_ne (by omega)).trans h_9
    have h_22 : ct_13 246 = .inl (fcI g, 36, .inl (F 6)) := by rw [q_14]; exact (fu_ne (by omega)).trans h_10
    have h_23 : ct_13 247 = .inl (fcI g, 20, .inl (F 7)) := by rw [q_14]; exact (fu_ne (by omega)).trans h_11
    have h_24 : ct_13 248 = .inl (fcI g, 20, .inl (F 8)) := by rw [q_14]; exact (fu_ne (by omega)).trans h_12
    have hI0 := hI.2
    have hk1 : k = 121 := by omega
    rw [hk1] at hI0
    clear ih hI
    have hs0 : ∀ j, j < 121 → upd fy 0 (nI n) j = (if j = 0 then nI n else if 3 ≤ j ∧ j < 3 + 0 then nI ((j - 3 + 1) % n) else nI 0) := fun j hj => by
      by_cases y : j = 0
      · subst y; rw [if_pos rfl]; exact upd_eq _ _ _
      · rw [if_neg y, if_neg (by omega), upd_ne y]; exact hI0 j hj
    refine lv_iconst (v := (nI 0)) hx hb dX8_begins_28 (by decide) ?_
    refine lv_istore_n (lv' := [(2, .int (nI 0)), (0, .ref (fa g 239)), (1, .int (nI n))]) hx hb dX8_begins_29 rfl hl (by decide) rfl (fun ls hl => ?_)
    refine fs_ind (g := g) (N := N) (St := Nat) (fun (i : Nat) (ct_25 : Nat → va_E) (ls : Array Slot) => lv_has ls 3 [(0, .ref (fa g 239)), (1, .int (nI n)), (2, .int (nI i))] ∧ ∃ fx : Nat → Int32, ct_25 = fu ct_13 240 (.inl (fcI g, 121, .inl fx)) ∧ i ≤ n ∧ ∀ j, j < 121 → fx j = (if j = 0 then nI n else if 3 ≤ j ∧ j < 3 + i then nI ((j - 3 + 1) % n) else nI 0)) (fun i => n - i) ?_ 0 _ _ ls _ ⟨lv_sub hl [1, 2, 0] rfl, ⟨_, by rw [fu_same h_16], by omega, hs0⟩⟩ hP hS
    clear hl hP hS
    intro st ct_25 H ls locs hI hP hS ih
    obtain ⟨i, rfl⟩ : ∃ z, z = st := ⟨_, rfl⟩
    obtain ⟨hl, fx, hct9, hI⟩ := hI
    have h_26 : ct_25 239 = .inr (8, [.ref (fa g 240), .ref (fa g 241), .int (z 0), .ref (fa g 242), .ref (fa g 243), .ref (fa g 244), .int (z 1), .ref (fa g 245), .int (z 2), .ref (fa g 246), .ref (fa g 247), .ref (fa g 248), .int (z 3), .int (z 4), .int (z 5), .int (z 6), .int (z 7), .int (z 8), .int (z 9)]) := by rw [hct9]; exact (fu_ne (by omega)).trans h_15
    have h_27 : ct_25 240 = .inl (fcI g, 121, .inl fx) := by rw [hct9]; exact fu_eq _ _ _
    have h_28 : ct_25 241 = .inl (fcI g, 726, .inl (F 1)) := by rw [hct9]; exact (fu_ne (by omega)).trans h_17
    have h_29 : ct_25 242 = .inl (fcI g, 242, .inl (F 2)) := by rw [hct9]; exact (fu_ne (by omega)).trans h_18
    have h_30 : ct_25 243 = .inl (fcI g, 2, .inl (F 3)) := by rw [hct9]; exact (fu_ne (by omega)).trans h_19
    have h_31 : ct_25 244 = .inl (fcI g, 60, .inl (F 4)) := by rw [hct9]; exact (fu_ne (by omega)).trans h_20
    have h_32 : ct_25 245 = .inl (fcI g, 6, .inl (F 5)) := by rw [hct9]; exact (fu_ne (by omega)).trans h_21
    have h_33 : ct_25 246 = .inl (fcI g, 36, .inl (F 6)) := by rw [hct9]; exact (fu_ne (by omega)).trans h_22
    have h_34 : ct_25 247 = .inl (fcI g, 20, .inl (F 7)) := by rw [hct9]; exact (fu_ne (by omega)).trans h_23
    have h_35 : ct_25 248 = .inl (fcI g, 20, .inl (F 8)) := by rw [hct9]; exact (fu_ne (by omega)).trans h_24
    have hI1 := hI.1
    refine lv_iload_n hx hb dX8_begins_30 rfl (lv_at hl 2 rfl) ?_
    refine lv_iload_n hx hb dX8_begins_31 rfl (lv_at hl 1 rfl) ?_
    refine lv_icmp_ge (tgt := 54) hx hb dX8_begins_32 (by decide) (fun c_32 => ?_) (fun c_32 => ?_)
    · rw [nI_leI (by omega) (by omega)] at c_32
      refine fs_vret E hr hlk hP hS dX8_begins_54 ?_
      exact ⟨fx, by rw [hct9, q_14, hct0, fu_fu, fu_fu], fun j hj => by rw [hI.2 j hj, show i = n by omega]; unfold sOpen; rfl⟩
    · rw [nI_leI (by omega) (by omega)] at c_32
      refine lv_aload_n hx hb dX8_begins_35 rfl (lv_at hl 0 rfl) ?_
      refine fs_get E hP (k := 239) (v := .ref (fa g 240)) 0 fc8 h_26 (by omega) (by decide) (wm wl_5 (i := 0) rfl) rfl dX8_begins_36 ?_
      refine lv_iconst (v := (nI 3)) hx hb dX8_begins_39 (by decide) ?_
      refine lv_iload_n hx hb dX8_begins_40 rfl (lv_at hl 2 rfl) ?_
      refine lv_iadd hx hb dX8_begins_41 ?_
      refine fs_vi (y := nI (3 + i)) (nI_add _ _) ?_
      refine lv_iload_n hx hb dX8_begins_42 rfl (lv_at hl 2 rfl) ?_
      refine lv_iconst (v := (nI 1)) hx hb dX8_begins_43 (by decide) ?_
      refine lv_iadd hx hb dX8_begins_44 ?_
      refine fs_vi (y := nI (i + 1)) (nI_add _ _) ?_
      refine lv_iload_n hx hb dX8_begins_45 rfl (lv_at hl 1 rfl) ?_
      refine lv_irem hx hb dX8_begins_46 hnz ?_
      refine fs_vi (y := (nI ((i + 1) % n))) (frem (by omega) (by omega) (by omega)) ?_
      refine fs_iast E hP hS (k := 240) h_27 (by omega) (vp_in_nI (by omega) (by omega)) dX8_begins_47 (fun ct_36 H locs q_37 hP hS => ?_)
      rw [nI_clamp (by omega)] at q_37
      have h_38 : ct_36 239 = .inr (8, [.ref (fa g 240), .ref (fa g 241), .int (z 0), .ref (fa g 242), .ref (fa g 243), .ref (fa g 244), .int (z 1), .ref (fa g 245), .int (z 2), .ref (fa g 246), .ref (fa g 247), .ref (fa g 248), .int (z 3), .int (z 4), .int (z 5), .int (z 6), .int (z 7), .int (z 8), .int (z 9)]) := by rw [q_37]; exact (fu_ne (by omega)).trans h_26
      have h_39 : ct_36 240 = .inl (fcI g, 121, .inl (upd fx (3 + i) (nI ((i + 1) % n)))) := by rw [q_37]; exact fu_eq _ _ _
      have h_40 : ct_36 241 = .inl (fcI g, 726, .inl (F 1)) := by rw [q_37]; exact (fu_ne (by omega)).trans h_28
      have h_41 : ct_36 242 = .inl (fcI g, 242, .inl (F 2)) := by rw [q_37]; exact (fu_ne (by omega)).trans h_29
      have h_42 : ct_36 243 = .inl (fcI g, 2, .inl (F 3)) := by rw [q_37]; exact (fu_ne (by omega)).trans h_30
      have h_43 : ct_36 244 = .inl (fcI g, 60, .inl (F 4)) := by rw [q_37]; exact (fu_ne (by omega)).trans h_31
      have h_44 : ct_36 245 = .inl (fcI g, 6, .inl (F 5)) := by rw [q_37]; exact (fu_ne (by omega)).trans h_32
      have h_45 : ct_36 246 = .inl (fcI g, 36, .inl (F 6)) := by rw [q_37]; exact (fu_ne (by omega)).trans h_33
      have h_46 : ct_36 247 = .inl (fcI g, 20, .inl (F 7)) := by rw [q_37]; exact (fu_ne (by omega)).trans h_34
      have h_47 : ct_36 248 = .inl (fcI g, 20, .inl (F 8)) := by rw [q_37]; exact (fu_ne (by omega)).trans h_35
      have hs9 : ∀ j, j < 121 → upd fx (3 + i) (nI ((i + 1) % n)) j = (if j = 0 then nI n else if 3 ≤ j ∧ j < 3 + (i + 1) then nI ((j - 3 + 1) % n) else nI 0) := fun j hj => by
        by_cases y : j = 3 + i
        · subst y; rw [upd_eq, if_neg (by omega), if_pos (by omega), show 3 + i - 3 + 1 = i + 1 by omega]
        · rw [upd_ne y, hI.2 j hj]
          by_cases x : j = 0
          · rw [if_pos x, if_pos x]
          · rw [if_neg x, if_neg x]
            by_cases u : 3 ≤ j ∧ j < 3 + i
            · rw [if_pos u, if_pos (by omega)]
            · rw [if_neg u, if_neg (by omega)]
      refine lv_iinc (v := (nI (i + 1))) (lv' := [(2, .int (nI (i + 1))), (0, .ref (fa g 239)), (1, .int (nI n))]) hx hb dX8_begins_48 hl (k := 2) rfl (nI_1 _) (by decide) rfl (fun ls hl => ?_)
      refine lv_goto (tgt := 30) hx hb dX8_begins_51 (by decide) ?_
      exact ih (i + 1) _ _ ls _ (by omega) ⟨lv_sub hl [1, 2, 0] rfl, ⟨_, by rw [q_37, hct9, fu_fu], by omega, hs9⟩⟩ hP hS
  · rw [nI_leI (by omega) (by omega)] at c_5
    refine lv_aload_n hx hb dX8_begins_8 rfl (lv_at hl 0 rfl) ?_
    refine fs_get E hP (k := 239) (v := .ref (fa g 240)) 0 fc8 h_3 (by omega) (by decide) (wm wl_5 (i := 0) rfl) rfl dX8_begins_9 ?_
    refine lv_iload_n hx hb dX8_begins_12 rfl (lv_at hl 2 rfl) ?_
    refine lv_iconst (v := (nI 0)) hx hb dX8_begins_13 (by decide) ?_
    refine fs_iast E hP hS (k := 240) h_4 (by omega) (vp_in_nI (by omega) (by omega)) dX8_begins_14 (fun ct_48 H locs q_49 hP hS => ?_)
    rw [nI_clamp (by omega)] at q_49
    have h_50 : ct_48 239 = .inr (8, [.ref (fa g 240), .ref (fa g 241), .int (z 0), .ref (fa g 242), .ref (fa g 243), .ref (fa g 244), .int (z 1), .ref (fa g 245), .int (z 2), .ref (fa g 246), .ref (fa g 247), .ref (fa g 248), .int (z 3), .int (z 4), .int (z 5), .int (z 6), .int (z 7), .int (z 8), .int (z 9)]) := by rw [q_49]; exact (fu_ne (by omega)).trans h_3
    have h_51 : ct_48 240 = .inl (fcI g, 121, .inl (upd fy k (nI 0))) := by rw [q_49]; exact fu_eq _ _ _
    have h_52 : ct_48 241 = .inl (fcI g, 726, .inl (F 1)) := by rw [q_49]; exact (fu_ne (by omega)).trans h_5
    have h_53 : ct_48 242 = .inl (fcI g, 242, .inl (F 2)) := by rw [q_49]; exact (fu_ne (by omega)).trans h_6
    have h_54 : ct_48 243 = .inl (fcI g, 2, .inl (F 3)) := by rw [q_49]; exact (fu_ne (by omega)).trans h_7
    have h_55 : ct_48 244 = .inl (fcI g, 60, .inl (F 4)) := by rw [q_49]; exact (fu_ne (by omega)).trans h_8
    have h_56 : ct_48 245 = .inl (fcI g, 6, .inl (F 5)) := by rw [q_49]; exact (fu_ne (by omega)).trans h_9
    have h_57 : ct_48 246 = .inl (fcI g, 36, .inl (F 6)) := by rw [q_49]; exact (fu_ne (by omega)).trans h_10
    have h_58 : ct_48 247 = .inl (fcI g, 20, .inl (F 7)) := by rw [q_49]; exact (fu_ne (by omega)).trans h_11
    have h_59 : ct_48 248 = .inl (fcI g, 20, .inl (F 8)) := by rw [q_49]; exact (fu_ne (by omega)).trans h_12
    refine lv_iinc (v := (nI (k + 1))) (lv' := [(2, .int (nI (k + 1))), (0, .ref (fa g 239)), (1, .int (nI n))]) hx hb dX8_begins_15 hl (k := 2) rfl (nI_1 _) (by decide) rfl (fun ls hl => ?_)
    refine lv_goto (tgt := 2) hx hb dX8_begins_18 (by decide) ?_
    exact ih (k + 1) _ _ ls _ (by omega) ⟨lv_sub hl [1, 2, 0] rfl, ⟨_, by rw [q_49, hct0, fu_fu], by omega, fun j hj => if y : j = k then (by subst y; exact upd_eq _ _ _) else (upd_ne y).trans (hI.2 j (by omega))⟩⟩ hP hS
