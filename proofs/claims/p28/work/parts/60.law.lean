/-! the object, whose cells stay -/
section OGL
variable {g : fG} {ct ct1 : Nat → va_E} {σ : Nat → Int32} {k : Nat} {hs : Nat → Nat → Int32} {u1 u2 : Bool} {s1 s2 : Nat → Int32} {t : Nat → Nat} {len : Nat}
theorem OGAt.good (H : OGAt g ct σ k hs u1 s1 u2 s2 t len) : Good σ := by obtain ⟨sv, h, _⟩ := H; exact h.2.2.1
theorem OGAt.obj (H : OGAt g ct σ k hs u1 s1 u2 s2 t len) : ∃ fs, ct 0 = .inr (7, fs) := by obtain ⟨sv, h, _⟩ := H; exact ⟨_, h.1⟩
theorem OGAt.keep (H : OGAt g ct σ k hs u1 s1 u2 s2 t len) (h : ∀ j, j < 239 → ct1 j = ct j) : OGAt g ct1 σ k hs u1 s1 u2 s2 t len := by
  obtain ⟨sv, ⟨a, b, c, d, x, y, z, w⟩, q⟩ := H
  exact ⟨sv, ⟨(h _ (by omega)).trans a, b.keep (fun j h1 h2 => h j (by omega)), c, d.keep (fun j h1 h2 => h j (by omega)), x.keep (fun j h1 h2 => h j (by omega)), y.keep (fun j h1 h2 => h j (by omega)), z.keep (h _ (by omega)) (h _ (by omega)), w.keep (fun j h1 h2 => h j (by omega))⟩,
    q.elim Or.inl (fun v => Or.inr ⟨v.1, v.2.keep (h _ (by omega)) (h _ (by omega)) (h _ (by omega)) (h _ (by omega))⟩)⟩
end OGL
/-! the law's own rows: 239 looks, 240 scores, 241 guessed, 242 rumours, 243 numbers, 244 a world, 245 counts -/
abbrev LR (σ : Nat → Int32) (fr : Nat → Int32) : Prop := ∀ r i, r < nT σ → i < 5 → fr (5 * r + i) = nI (rk σ r i)
def sa (g : fG) : Nat := g.2.2.2.1
/-- the counts over the first m worlds -/
def CO (σ : Nat → Int32) (m : Nat) (f : Nat → Int32) : Prop := f 0 = nI (cN (okq σ) m) ∧ (∀ p b, p < nB σ → b < 6 → f (1 + 6 * p + b) = nI (cN (lkq σ p b) m)) ∧ (∀ r, r < nT σ → f (37 + r) = nI (cN (hdq σ r) m)) ∧ f 50 = nI (mwQ σ m).1 ∧ f 49 = nI (mwQ σ m).2
theorem bI_iff {P Q : Prop} [Decidable P] [Decidable Q] (h : P ↔ Q) : bI P = bI Q := by
  unfold bI; by_cases p : P
  · rw [if_pos p, if_pos (h.mp p)]
  · rw [if_neg p, if_neg (fun q => p (h.mpr q))]
theorem may_m1 {σ : Nat → Int32} {w : Nat → Nat} (h : nT σ ≤ 20) : (∀ r, r < nT σ → (-1 : Int32) = nI r ∨ bad σ w r = false) ↔ okB σ w = true := by
  unfold okB
  rw [decide_eq_true_iff]
  exact ⟨fun z r hr => (z r hr).resolve_left (fun q => nI_ne_m1 (by omega) q.symm), fun z r hr => Or.inr (z r hr)⟩
theorem bad_op {σ : Nat → Int32} {w : Nat → Nat} {r : Nat} (h : rk σ r 4 = 0) : bad σ w r = false := by
  unfold bad bk; rw [h]; split <;> rfl
theorem bad_pr {σ : Nat → Int32} {w : Nat → Nat} {r : Nat} (h : rk σ r 4 = 1) : bad σ w r = !hdr σ w r := by
  unfold bad bk; rw [h]
  show (if hdr σ w r = true then decide (1 = 2) else decide (1 = 1)) = _
  cases hdr σ w r <;> rfl
theorem bad_re {σ : Nat → Int32} {w : Nat → Nat} {r : Nat} (h : rk σ r 4 = 2) : bad σ w r = hdr σ w r := by
  unfold bad bk; rw [h]
  show (if hdr σ w r = true then decide (2 = 2) else decide (2 = 1)) = _
  cases hdr σ w r <;> rfl
theorem bI1 {P : Prop} [Decidable P] (h : bI P = nI 1) : P := Classical.byContradiction (fun z => by rw [← bI_f z] at h; exact absurd h (by decide))
theorem bI0 {P : Prop} [Decidable P] (h : bI P = nI 0) : ¬ P := fun z => by rw [← bI_t z] at h; exact absurd h (by decide)
theorem bI1n {P : Prop} [Decidable P] (h : ¬ bI P = nI 1) : ¬ P := fun z => h (bI_t z).symm
theorem bI0n {P : Prop} [Decidable P] (h : ¬ bI P = nI 0) : P := Classical.byContradiction (fun z => h (bI_f z).symm)
theorem dgt_full {B n e : Nat} (hB : 0 < B) (he : e < n) : dgt B (B ^ n) e = 0 := by
  unfold dgt
  rw [Nat.pow_div (by omega) hB, show n - e = (n - e - 1) + 1 by omega, Nat.pow_succ]
  exact Nat.mul_mod_left _ _
theorem dgt_room {B n e k : Nat} (hB : 0 < B) (he : e < n) (hk : k < B ^ n) (hl : k % B ^ e + 1 = B ^ e) (hd : dgt B k e + 1 < B) : k + 1 < B ^ n := by
  have h1 := (dgt_step hB hl hd).2.1
  rcases Nat.lt_or_ge (k + 1) (B ^ n) with h | h
  · exact h
  · rw [show k + 1 = B ^ n by omega, dgt_full hB he] at h1
    omega
theorem fs_cut {p : Program} {l : Launch} {e : Env} {R : Room} {s : State} {m : MethodId} {args : Array Value} {below : List Frame} {meth : Method} {c : Code} {H : Heap} {locs : List Loc} {cells slots : Nat} {Q : State → Prop} {g1 : JFrame} (g2 : JFrame) (h1 : W p l e R s m args below meth c H locs cells slots Q g2) (h2 : W p l e R s m args below meth c H locs cells slots Q g2 → W p l e R s m args below meth c H locs cells slots Q g1) : W p l e R s m args below meth c H locs cells slots Q g1 := h2 h1

set_option maxRecDepth 100000 in
set_option maxHeartbeats 4000000 in
theorem c_L_cell (l : Launch) (g : fG) (N : Nat) (ct : Nat → va_E) (i : Nat) (hi : i < 1000) : Met l yL_cell (wsU yL_cell cL_cell 2 (some .int)) rL_cell (fPre g N ct [.ref (sa g), .int (nI i)]) (fQpi (fun _ => True)) 0 0 (fB g) := by
  refine fs_start (own := RL) (lv0 := [(0, .ref (sa g)), (1, .int (nI i))]) (by decide) rfl (Nat.le_of_ble_eq_true rfl) rfl ?_
  intro p e s m args below meth c ls E hr hlk hnm hP hl hS
  have hx := E.1.1
  have hb := E.1.2.1
  have hE := E.2.2
  obtain ⟨xs, hX⟩ := E.2.2.2
  have hL := hE.1.2
  refine lv_iload_n hx hb dL_cell_0 rfl (lv_at hl 1 rfl) ?_
  refine lv_aload_n hx hb dL_cell_1 rfl (lv_at hl 0 rfl) ?_
  refine va_slen hx hb hX hX.inside hE.1.1 hS dL_cell_2 ?_
  refine fs_vi (y := nI g.2.2.2.2) rfl ?_
  refine lv_icmp_ge (tgt := 12) hx hb dL_cell_3 (by decide) (fun c_3 => ?_) (fun c_3 => ?_)
  · rw [nI_leI (by omega) (by omega)] at c_3
    refine lv_ldc (v := 983530859) hx hb E.1.2.2.2.1 (E.1.2.2.2.2 _ (wm wl_4 (i := 20) rfl)) dL_cell_12 ?_
    refine lv_iload_n hx hb dL_cell_14 rfl (lv_at hl 1 rfl) ?_
    refine lv_iconst (v := (nI 1)) hx hb dL_cell_15 (by decide) ?_
    refine lv_iadd hx hb dL_cell_16 ?_
    refine lv_imul hx hb dL_cell_17 ?_
    refine lv_ldc (v := 761063665) hx hb E.1.2.2.2.1 (E.1.2.2.2.2 _ (wm wl_4 (i := 21) rfl)) dL_cell_18 ?_
    refine lv_iadd hx hb dL_cell_20 ?_
    refine fs_piret E hr hlk hS dL_cell_21 ?_
    trivial
  · rw [nI_leI (by omega) (by omega)] at c_3
    refine lv_aload_n hx hb dL_cell_6 rfl (lv_at hl 0 rfl) ?_
    refine lv_iload_n hx hb dL_cell_7 rfl (lv_at hl 1 rfl) ?_
    refine va_sld hx hb hX hX.inside hE.1.1 hS (vp_in_nI (by omega) (by omega)) dL_cell_8 ?_
    refine lv_goto (tgt := 21) hx hb dL_cell_9 (by decide) ?_
    refine fs_piret E hr hlk hS dL_cell_21 ?_
    trivial

set_option maxRecDepth 100000 in
set_option maxHeartbeats 4000000 in
theorem c_L_low (l : Launch) (g : fG) (N : Nat) (ct : Nat → va_E) (v : Int32) (n0 : Nat) (h0 : 0 < n0) (h9 : n0 < 100000) : Met l yL_low (wsU yL_low cL_low 2 (some .int)) rL_low (fPre g N ct [.int v, .int (nI n0)]) (fQpi (fun r => ∃ k1, k1 < n0 ∧ r = nI k1)) 0 0 (fB g) := by
  refine fs_start (own := RL) (lv0 := [(0, .int v), (1, .int (nI n0))]) (by decide) rfl (Nat.le_of_ble_eq_true rfl) rfl ?_
  intro p e s m args below meth c ls E hr hlk hnm hP hl hS
  have hx := E.1.1
  have hb := E.1.2.1
  have hnz : ¬ nI n0 = 0 := fun z => by rw [fz_eqN (by omega)] at z; omega
  refine lv_iload_n hx hb dL_low_0 rfl (lv_at hl 0 rfl) ?_
  refine lv_ldc (v := 2147483647) hx hb E.1.2.2.2.1 (E.1.2.2.2.2 _ (wm wl_5 (i := 1) rfl)) dL_low_1 ?_
  refine lv_iand hx hb dL_low_3 ?_
  obtain ⟨v1, hv1, ev1⟩ := pk_andE v (m := (2147483647)) 31 (by decide)
  refine fs_vi (y := nI v1) ev1 ?_
  refine lv_iload_n hx hb dL_low_4 rfl (lv_at hl 1 rfl) ?_
  refine lv_irem hx hb dL_low_5 hnz ?_
  refine fs_vi (y := (nI (v1 % n0))) (pk_rem hv1 h0 (by omega)) ?_
  refine fs_piret E hr hlk hS dL_low_6 ?_
  exact ⟨_, Nat.mod_lt _ h0, rfl⟩

set_option maxRecDepth 100000 in
set_option maxHeartbeats 4000000 in
theorem c_L_holds (l : Launch) (g : fG) (N : Nat) (ct : Nat → va_E) (n kd a b j : Nat) (f : Nat → Int32) (w : Nat → Nat) (hj : j < N) (hn6 : n ≤ 6) (hok : okk n kd a b) (hfw : ∀ p, p < n → f p = nI (w p)) (hw : Wok n w) (hcw : ct j = .inl (fcI g, 6, .inl f)) : Met l yL_holds (wsU yL_holds cL_holds 7 (some .boolean)) rL_holds (fPre g N ct [.int (nI kd), .int (nI a), .int (nI b), .ref (fa g j), .int (nI n)]) (fQpi (fun r => r = bI (hd n w kd a b = true))) 0 0 (fB g) := by
  refine fs_start (own := RL) (lv0 := [(0, .int (nI kd)), (1, .int (nI a)), (2, .int (nI b)), (3, .ref (fa g j)), (4, .int (nI n))]) (by decide) rfl (Nat.le_of_ble_eq_true rfl) rfl ?_
  intro p e s m args below meth c ls E hr hlk hnm hP hl hS
  have hx := E.1.1
  have hb := E.1.2.1
  obtain ⟨ok1, ok2, ok3, ok4⟩ := id hok
  have ok5 := hw a ok2
  have okb : kd ≠ 4 → w b < n := fun q => hw b (ok4 q).1
  have okb2 : kd ≠ 4 → b < n := fun q => (ok4 q).1
  have okb3 : b < 7 := by rcases Decidable.em (kd = 4) with q | q
                          · have := ok3 q; omega
                          · have := okb2 q; omega
  have okc := hw (w a) ok5
  have ok7 : cN (fun p => decide (w p = a)) n < 7 := cN_lt7 hn6
  refine lv_iconst (v := (nI 0)) hx hb dL_holds_0 (by decide) ?_
  refine lv_istore (lv' := [(5, .int (nI 0)), (0, .int (nI kd)), (1, .int (nI a)), (2, .int (nI b)), (3, .ref (fa g j)), (4, .int (nI n))]) hx hb dL_holds_1 hl (by decide) rfl (fun ls hl => ?_)
  refine lv_iconst (v := (nI 0)) hx hb dL_holds_3 (by decide) ?_
  refine lv_istore (lv' := [(6, .int (nI 0)), (5, .int (nI 0)), (0, .int (nI kd)), (1, .int (nI a)), (2, .int (nI b)), (3, .ref (fa g j)), (4, .int (nI n))]) hx hb dL_holds_4 hl (by decide) rfl (fun ls hl => ?_)
  refine fs_indP (g := g) (St := Nat) (fun (i : Nat) (ls : Array Slot) => lv_has ls 7 [(0, .int (nI kd)), (1, .int (nI a)), (2, .int (nI b)), (3, .ref (fa g j)), (4, .int (nI n)), (5, .int (nI (cN (fun p => decide (w p = a)) i))), (6, .int (nI i))] ∧ i ≤ n) (fun (i : Nat) => n - i) ?_ 0 ls _ ⟨lv_sub hl [2, 3, 4, 5, 6, 1, 0] rfl, Nat.zero_le _⟩ hS
  clear hl hS
  intro st ls locs hI hS ih
  obtain ⟨i, rfl⟩ : ∃ z, z = st := ⟨_, rfl⟩
  obtain ⟨hl, hI⟩ := hI
  refine lv_iload hx hb dL_holds_6 (lv_at hl 6 rfl) ?_
  refine lv_iload hx hb dL_holds_8 (lv_at hl 4 rfl) ?_
  refine lv_icmp_ge (tgt := 37) hx hb dL_holds_10 (by decide) (fun c_10 => ?_) (fun c_10 => ?_)
  · rw [nI_leI (by omega) (by omega)] at c_10
    have hin : i = n := by omega
    rw [hin] at hl
    rcases (show kd = 0 ∨ kd = 1 ∨ kd = 2 ∨ kd = 3 ∨ kd = 4 ∨ kd = 5 by omega) with rfl | rfl | rfl | rfl | rfl | rfl
    · refine lv_iload_n hx hb dL_holds_37 rfl (lv_at hl 0 rfl) ?_
      refine lv_if_ne (tgt := 48) hx hb dL_holds_38 (by decide) (fun c_38 => ?_) (fun c_38 => ?_)
      · exact absurd c_38 (by decide)
      refine lv_aload_n hx hb dL_holds_41 rfl (lv_at hl 3 rfl) ?_
      refine lv_iload_n hx hb dL_holds_42 rfl (lv_at hl 1 rfl) ?_
      refine fs_iald E hP (k := j) hcw hj (vp_in_nI (by omega) (by omega)) dL_holds_43 ?_
      refine fs_vi (y := f a) (congrArg f (nI_clamp (by omega))) ?_
      refine fs_vi (y := (nI (w a))) (hfw _ (by omega)) ?_
      refine lv_iload_n hx hb dL_holds_44 rfl (lv_at hl 2 rfl) ?_
      refine lv_icmp_eq (tgt := 118) hx hb dL_holds_45 (by decide) (fun c_45 => ?_) (fun c_45 => ?_)
      · rw [nI_eq (by omega) (by omega)] at c_45
        refine lv_iconst (v := (nI 1)) hx hb dL_holds_118 (by decide) ?_
        refine lv_goto (tgt := 123) hx hb dL_holds_119 (by decide) ?_
        refine fs_pzret E hr rfl hlk hS dL_holds_123 ?_
        exact bI_t (by simp only [hd, decide_eq_true_eq]; omega)
      · rw [nI_eq (by omega) (by omega)] at c_45
        refine lv_iload_n hx hb dL_holds_48 rfl (lv_at hl 0 rfl) ?_
        refine lv_iconst (v := (nI 1)) hx hb dL_holds_49 (by decide) ?_
        refine lv_icmp_ne (tgt := 60) hx hb dL_holds_50 (by decide) (fun c_50 => ?_) (fun c_50 => ?_)
        rotate_left
        · exact absurd c_50 (by decide)
        refine lv_iload_n hx hb dL_holds_60 rfl (lv_at hl 0 rfl) ?_
        refine lv_iconst (v := (nI 2)) hx hb dL_holds_61 (by decide) ?_
        refine lv_icmp_ne (tgt := 79) hx hb dL_holds_62 (by decide) (fun c_62 => ?_) (fun c_62 => ?_)
        rotate_left
        · exact absurd c_62 (by decide)
        refine lv_iload_n hx hb dL_holds_79 rfl (lv_at hl 0 rfl) ?_
        refine lv_iconst (v := (nI 3)) hx hb dL_holds_80 (by decide) ?_
        refine lv_icmp_ne (tgt := 93) hx hb dL_holds_81 (by decide) (fun c_81 => ?_) (fun c_81 => ?_)
        rotate_left
        · exact absurd c_81 (by decide)
        refine lv_iload_n hx hb dL_holds_93 rfl (lv_at hl 0 rfl) ?_
        refine lv_iconst (v := (nI 4)) hx hb dL_holds_94 (by decide) ?_
        refine lv_icmp_ne (tgt := 104) hx hb dL_holds_95 (by decide) (fun c_95 => ?_) (fun c_95 => ?_)
        rotate_left
        · exact absurd c_95 (by decide)
        refine lv_iload_n hx hb dL_holds_104 rfl (lv_at hl 0 rfl) ?_
        refine lv_iconst (v := (nI 5)) hx hb dL_holds_105 (by decide) ?_
        refine lv_icmp_ne (tgt := 122) hx hb dL_holds_106 (by decide) (fun c_106 => ?_) (fun c_106 => ?_)
        rotate_left
        · exact absurd c_106 (by decide)
        refine lv_iconst (v := (nI 0)) hx hb dL_holds_122 (by decide) ?_
        refine fs_pzret E hr rfl hlk hS dL_holds_123 ?_
        exact bI_f (by simp only [hd, decide_eq_true_eq]; omega)
    · refine lv_iload_n hx hb dL_holds_37 rfl (lv_at hl 0 rfl) ?_
      refine lv_if_ne (tgt := 48) hx hb dL_holds_38 (by decide) (fun c_38 => ?_) (fun c_38 => ?_)
      rotate_left
      · exact absurd c_38 (by decide)
      refine lv_iload_n hx hb dL_holds_48 rfl (lv_at hl 0 rfl) ?_
      refine lv_iconst (v := (nI 1)) hx hb dL_holds_49 (by decide) ?_
      refine lv_icmp_ne (tgt := 60) hx hb dL_holds_50 (by decide) (fun c_50 => ?_) (fun c_50 => ?_)
      · exact absurd c_50 (by decide)
      refine lv_aload_n hx hb dL_holds_53 rfl (lv_at hl 3 rfl) ?_
      refine lv_iload_n hx hb dL_holds_54 rfl (lv_at hl 1 rfl) ?_
      refine fs_iald E hP (k := j) hcw hj (vp_in_nI (by omega) (by omega)) dL_holds_55 ?_
      refine fs_vi (y := f a) (congrArg f (nI_clamp (by omega))) ?_
      refine fs_vi (y := (nI (w a))) (hfw _ (by omega)) ?_
      refine lv_iload_n hx hb dL_holds_56 rfl (lv_at hl 2 rfl) ?_
      refine lv_icmp_ne (tgt := 118) hx hb dL_holds_57 (by decide) (fun c_57 => ?_) (fun c_57 => ?_)
      · rw [nI_eq (by omega) (by omega)] at c_57
        refine lv_iconst (v := (nI 1)) hx hb dL_holds_118 (by decide) ?_
        refine lv_goto (tgt := 123) hx hb dL_holds_119 (by decide) ?_
        refine fs_pzret E hr rfl hlk hS dL_holds_123 ?_
        exact bI_t (by simp only [hd, decide_eq_true_eq]; omega)
      · rw [nI_eq (by omega) (by omega)] at c_57
        refine lv_iload_n hx hb dL_holds_60 rfl (lv_at hl 0 rfl) ?_
        refine lv_iconst (v := (nI 2)) hx hb dL_holds_61 (by decide) ?_
        refine lv_icmp_ne (tgt := 79) hx hb dL_holds_62 (by decide) (fun c_62 => ?_) (fun c_62 => ?_)
        rotate_left
        · exact absurd c_62 (by decide)
        refine lv_iload_n hx hb dL_holds_79 rfl (lv_at hl 0 rfl) ?_
        refine lv_iconst (v := (nI 3)) hx hb dL_holds_80 (by decide) ?_
        refine lv_icmp_ne (tgt := 93) hx hb dL_holds_81 (by decide) (fun c_81 => ?_) (fun c_81 => ?_)
        rotate_left
        · exact absurd c_81 (by decide)
        refine lv_iload_n hx hb dL_holds_93 rfl (lv_at hl 0 rfl) ?_
        refine lv_iconst (v := (nI 4)) hx hb dL_holds_94 (by decide) ?_
        refine lv_icmp_ne (tgt := 104) hx hb dL_holds_95 (by decide) (fun c_95 => ?_) (fun c_95 => ?_)
        rotate_left
        · exact absurd c_95 (by decide)
        refine lv_iload_n hx hb dL_holds_104 rfl (lv_at hl 0 rfl) ?_
        refine lv_iconst (v := (nI 5)) hx hb dL_holds_105 (by decide) ?_
        refine lv_icmp_ne (tgt := 122) hx hb dL_holds_106 (by decide) (fun c_106 => ?_) (fun c_106 => ?_)
        rotate_left
        · exact absurd c_106 (by decide)
        refine lv_iconst (v := (nI 0)) hx hb dL_holds_122 (by decide) ?_
        refine fs_pzret E hr rfl hlk hS dL_holds_123 ?_
        exact bI_f (by simp only [hd, decide_eq_true_eq]; omega)
    · refine lv_iload_n hx hb dL_holds_37 rfl (lv_at hl 0 rfl) ?_
      refine lv_if_ne (tgt := 48) hx hb dL_holds_38 (by decide) (fun c_38 => ?_) (fun c_38 => ?_)
      rotate_left
      · exact absurd c_38 (by decide)
      refine lv_iload_n hx hb dL_holds_48 rfl (lv_at hl 0 rfl) ?_
      refine lv_iconst (v := (nI 1)) hx hb dL_holds_49 (by decide) ?_
      refine lv_icmp_ne (tgt := 60) hx hb dL_holds_50 (by decide) (fun c_50 => ?_) (fun c_50 => ?_)
      rotate_left
      · exact absurd c_50 (by decide)
      refine lv_iload_n hx hb dL_holds_60 rfl (lv_at hl 0 rfl) ?_
      refine lv_iconst (v := (nI 2)) hx hb dL_holds_61 (by decide) ?_
      refine lv_icmp_ne (tgt := 79) hx hb dL_holds_62 (by decide) (fun c_62 => ?_) (fun c_62 => ?_)
      · exact absurd c_62 (by decide)
      refine lv_aload_n hx hb dL_holds_65 rfl (lv_at hl 3 rfl) ?_
      refine lv_iload_n hx hb dL_holds_66 rfl (lv_at hl 1 rfl) ?_
      refine fs_iald E hP (k := j) hcw hj (vp_in_nI (by omega) (by omega)) dL_holds_67 ?_
      refine fs_vi (y := f a) (congrArg f (nI_clamp (by omega))) ?_
      refine fs_vi (y := (nI (w a))) (hfw _ (by omega)) ?_
      refine lv_iload_n hx hb dL_holds_68 rfl (lv_at hl 2 rfl) ?_
      refine lv_icmp_ne (tgt := 79) hx hb dL_holds_69 (by decide) (fun c_69 => ?_) (fun c_69 => ?_)
      · rw [nI_eq (by omega) (by omega)] at c_69
        refine lv_iload_n hx hb dL_holds_79 rfl (lv_at hl 0 rfl) ?_
        refine lv_iconst (v := (nI 3)) hx hb dL_holds_80 (by decide) ?_
        refine lv_icmp_ne (tgt := 93) hx hb dL_holds_81 (by decide) (fun c_81 => ?_) (fun c_81 => ?_)
        rotate_left
        · exact absurd c_81 (by decide)
        refine lv_iload_n hx hb dL_holds_93 rfl (lv_at hl 0 rfl) ?_
        refine lv_iconst (v := (nI 4)) hx hb dL_holds_94 (by decide) ?_
        refine lv_icmp_ne (tgt := 104) hx hb dL_holds_95 (by decide) (fun c_95 => ?_) (fun c_95 => ?_)
        rotate_left
        · exact absurd c_95 (by decide)
        refine lv_iload_n hx hb dL_holds_104 rfl (lv_at hl 0 rfl) ?_
        refine lv_iconst (v := (nI 5)) hx hb dL_holds_105 (by decide) ?_
        refine lv_icmp_ne (tgt := 122) hx hb dL_holds_106 (by decide) (fun c_106 => ?_) (fun c_106 => ?_)
        rotate_left
        · exact absurd c_106 (by decide)
        refine lv_iconst (v := (nI 0)) hx hb dL_holds_122 (by decide) ?_
        refine fs_pzret E hr rfl hlk hS dL_holds_123 ?_
        exact bI_f (by simp only [hd, decide_eq_true_eq]; omega)
      · rw [nI_eq (by omega) (by omega)] at c_69
        refine lv_aload_n hx hb dL_holds_72 rfl (lv_at hl 3 rfl) ?_
        refine lv_iload_n hx hb dL_holds_73 rfl (lv_at hl 2 rfl) ?_
        refine fs_iald E hP (k := j) hcw hj (vp_in_nI (by omega) (by omega)) dL_holds_74 ?_
        refine fs_vi (y := f b) (congrArg f (nI_clamp (by omega))) ?_
        refine fs_vi (y := (nI (w b))) (hfw _ (by omega)) ?_
        refine lv_iload_n hx hb dL_holds_75 rfl (lv_at hl 1 rfl) ?_
        refine lv_icmp_eq (tgt := 118) hx hb dL_holds_76 (by decide) (fun c_76 => ?_) (fun c_76 => ?_)
        · rw [nI_eq (by omega) (by omega)] at c_76
          refine lv_iconst (v := (nI 1)) hx hb dL_holds_118 (by decide) ?_
          refine lv_goto (tgt := 123) hx hb dL_holds_119 (by decide) ?_
          refine fs_pzret E hr rfl hlk hS dL_holds_123 ?_
          exact bI_t (by simp only [hd, decide_eq_true_eq]; omega)
        · rw [nI_eq (by omega) (by omega)] at c_76
          refine lv_iload_n hx hb dL_holds_79 rfl (lv_at hl 0 rfl) ?_
          refine lv_iconst (v := (nI 3)) hx hb dL_holds_80 (by decide) ?_
          refine lv_icmp_ne (tgt := 93) hx hb dL_holds_81 (by decide) (fun c_81 => ?_) (fun c_81 => ?_)
          rotate_left
          · exact absurd c_81 (by decide)
          refine lv_iload_n hx hb dL_holds_93 rfl (lv_at hl 0 rfl) ?_
          refine lv_iconst (v := (nI 4)) hx hb dL_holds_94 (by decide) ?_
          refine lv_icmp_ne (tgt := 104) hx hb dL_holds_95 (by decide) (fun c_95 => ?_) (fun c_95 => ?_)
          rotate_left
          · exact absurd c_95 (by decide)
          refine lv_iload_n hx hb dL_holds_104 rfl (lv_at hl 0 rfl) ?_
          refine lv_iconst (v := (nI 5)) hx hb dL_holds_105 (by decide) ?_
          refine lv_icmp_ne (tgt := 122) hx hb dL_holds_106 (by decide) (fun c_106 => ?_) (fun c_106 => ?_)
          rotate_left
          · exact absurd c_106 (by decide)
          refine lv_iconst (v := (nI 0)) hx hb dL_holds_122 (by decide) ?_
          refine fs_pzret E hr rfl hlk hS dL_holds_123 ?_
          exact bI_f (by simp only [hd, decide_eq_true_eq]; omega)
    · refine lv_iload_n hx hb dL_holds_37 rfl (lv_at hl 0 rfl) ?_
      refine lv_if_ne (tgt := 48) hx hb dL_holds_38 (by decide) (fun c_38 => ?_) (fun c_38 => ?_)
      rotate_left
      · exact absurd c_38 (by decide)
      refine lv_iload_n hx hb dL_holds_48 rfl (lv_at hl 0 rfl) ?_
      refine lv_iconst (v := (nI 1)) hx hb dL_holds_49 (by decide) ?_
      refine lv_icmp_ne (tgt := 60) hx hb dL_holds_50 (by decide) (fun c_50 => ?_) (fun c_50 => ?_)
      rotate_left
      · exact absurd c_50 (by decide)
      refine lv_iload_n hx hb dL_holds_60 rfl (lv_at hl 0 rfl) ?_
      refine lv_iconst (v := (nI 2)) hx hb dL_holds_61 (by decide) ?_
      refine lv_icmp_ne (tgt := 79) hx hb dL_holds_62 (by decide) (fun c_62 => ?_) (fun c_62 => ?_)
      rotate_left
      · exact absurd c_62 (by decide)
      refine lv_iload_n hx hb dL_holds_79 rfl (lv_at hl 0 rfl) ?_
      refine lv_iconst (v := (nI 3)) hx hb dL_holds_80 (by decide) ?_
      refine lv_icmp_ne (tgt := 93) hx hb dL_holds_81 (by decide) (fun c_81 => ?_) (fun c_81 => ?_)
      · exact absurd c_81 (by decide)
      refine lv_aload_n hx hb dL_holds_84 rfl (lv_at hl 3 rfl) ?_
      refine lv_iload_n hx hb dL_holds_85 rfl (lv_at hl 1 rfl) ?_
      refine fs_iald E hP (k := j) hcw hj (vp_in_nI (by omega) (by omega)) dL_holds_86 ?_
      refine fs_vi (y := f a) (congrArg f (nI_clamp (by omega))) ?_
      refine fs_vi (y := (nI (w a))) (hfw _ (by omega)) ?_
      refine lv_aload_n hx hb dL_holds_87 rfl (lv_at hl 3 rfl) ?_
      refine lv_iload_n hx hb dL_holds_88 rfl (lv_at hl 2 rfl) ?_
      refine fs_iald E hP (k := j) hcw hj (vp_in_nI (by omega) (by omega)) dL_holds_89 ?_
      refine fs_vi (y := f b) (congrArg f (nI_clamp (by omega))) ?_
      refine fs_vi (y := (nI (w b))) (hfw _ (by omega)) ?_
      refine lv_icmp_eq (tgt := 118) hx hb dL_holds_90 (by decide) (fun c_90 => ?_) (fun c_90 => ?_)
      · rw [nI_eq (by omega) (by omega)] at c_90
        refine lv_iconst (v := (nI 1)) hx hb dL_holds_118 (by decide) ?_
        refine lv_goto (tgt := 123) hx hb dL_holds_119 (by decide) ?_
        refine fs_pzret E hr rfl hlk hS dL_holds_123 ?_
        exact bI_t (by simp only [hd, decide_eq_true_eq]; omega)
      · rw [nI_eq (by omega) (by omega)] at c_90
        refine lv_iload_n hx hb dL_holds_93 rfl (lv_at hl 0 rfl) ?_
        refine lv_iconst (v := (nI 4)) hx hb dL_holds_94 (by decide) ?_
        refine lv_icmp_ne (tgt := 104) hx hb dL_holds_95 (by decide) (fun c_95 => ?_) (fun c_95 => ?_)
        rotate_left
        · exact absurd c_95 (by decide)
        refine lv_iload_n hx hb dL_holds_104 rfl (lv_at hl 0 rfl) ?_
        refine lv_iconst (v := (nI 5)) hx hb dL_holds_105 (by decide) ?_
        refine lv_icmp_ne (tgt := 122) hx hb dL_holds_106 (by decide) (fun c_106 => ?_) (fun c_106 => ?_)
        rotate_left
        · exact absurd c_106 (by decide)
        refine lv_iconst (v := (nI 0)) hx hb dL_holds_122 (by decide) ?_
        refine fs_pzret E hr rfl hlk hS dL_holds_123 ?_
        exact bI_f (by simp only [hd, decide_eq_true_eq]; omega)
    · refine lv_iload_n hx hb dL_holds_37 rfl (lv_at hl 0 rfl) ?_
      refine lv_if_ne (tgt := 48) hx hb dL_holds_38 (by decide) (fun c_38 => ?_) (fun c_38 => ?_)
      rotate_left
      · exact absurd c_38 (by decide)
      refine lv_iload_n hx hb dL_holds_48 rfl (lv_at hl 0 rfl) ?_
      refine lv_iconst (v := (nI 1)) hx hb dL_holds_49 (by decide) ?_
      refine lv_icmp_ne (tgt := 60) hx hb dL_holds_50 (by decide) (fun c_50 => ?_) (fun c_50 => ?_)
      rotate_left
      · exact absurd c_50 (by decide)
      refine lv_iload_n hx hb dL_holds_60 rfl (lv_at hl 0 rfl) ?_
      refine lv_iconst (v := (nI 2)) hx hb dL_holds_61 (by decide) ?_
      refine lv_icmp_ne (tgt := 79) hx hb dL_holds_62 (by decide) (fun c_62 => ?_) (fun c_62 => ?_)
      rotate_left
      · exact absurd c_62 (by decide)
      refine lv_iload_n hx hb dL_holds_79 rfl (lv_at hl 0 rfl) ?_
      refine lv_iconst (v := (nI 3)) hx hb dL_holds_80 (by decide) ?_
      refine lv_icmp_ne (tgt := 93) hx hb dL_holds_81 (by decide) (fun c_81 => ?_) (fun c_81 => ?_)
      rotate_left
      · exact absurd c_81 (by decide)
      refine lv_iload_n hx hb dL_holds_93 rfl (lv_at hl 0 rfl) ?_
      refine lv_iconst (v := (nI 4)) hx hb dL_holds_94 (by decide) ?_
      refine lv_icmp_ne (tgt := 104) hx hb dL_holds_95 (by decide) (fun c_95 => ?_) (fun c_95 => ?_)
      · exact absurd c_95 (by decide)
      refine lv_iload hx hb dL_holds_98 (lv_at hl 5 rfl) ?_
      refine lv_iload_n hx hb dL_holds_100 rfl (lv_at hl 2 rfl) ?_
      refine lv_icmp_eq (tgt := 118) hx hb dL_holds_101 (by decide) (fun c_101 => ?_) (fun c_101 => ?_)
      · rw [nI_eq (by omega) (by omega)] at c_101
        refine lv_iconst (v := (nI 1)) hx hb dL_holds_118 (by decide) ?_
        refine lv_goto (tgt := 123) hx hb dL_holds_119 (by decide) ?_
        refine fs_pzret E hr rfl hlk hS dL_holds_123 ?_
        exact bI_t (by simp only [hd, decide_eq_true_eq]; omega)
      · rw [nI_eq (by omega) (by omega)] at c_101
        refine lv_iload_n hx hb dL_holds_104 rfl (lv_at hl 0 rfl) ?_
        refine lv_iconst (v := (nI 5)) hx hb dL_holds_105 (by decide) ?_
        refine lv_icmp_ne (tgt := 122) hx hb dL_holds_106 (by decide) (fun c_106 => ?_) (fun c_106 => ?_)
        rotate_left
        · exact absurd c_106 (by decide)
        refine lv_iconst (v := (nI 0)) hx hb dL_holds_122 (by decide) ?_
        refine fs_pzret E hr rfl hlk hS dL_holds_123 ?_
        exact bI_f (by simp only [hd, decide_eq_true_eq]; omega)
    · refine lv_iload_n hx hb dL_holds_37 rfl (lv_at hl 0 rfl) ?_
      refine lv_if_ne (tgt := 48) hx hb dL_holds_38 (by decide) (fun c_38 => ?_) (fun c_38 => ?_)
      rotate_left
      · exact absurd c_38 (by decide)
      refine lv_iload_n hx hb dL_holds_48 rfl (lv_at hl 0 rfl) ?_
      refine lv_iconst (v := (nI 1)) hx hb dL_holds_49 (by decide) ?_
      refine lv_icmp_ne (tgt := 60) hx hb dL_holds_50 (by decide) (fun c_50 => ?_) (fun c_50 => ?_)
      rotate_left
      · exact absurd c_50 (by decide)
      refine lv_iload_n hx hb dL_holds_60 rfl (lv_at hl 0 rfl) ?_
      refine lv_iconst (v := (nI 2)) hx hb dL_holds_61 (by decide) ?_
      refine lv_icmp_ne (tgt := 79) hx hb dL_holds_62 (by decide) (fun c_62 => ?_) (fun c_62 => ?_)
      rotate_left
      · exact absurd c_62 (by decide)
      refine lv_iload_n hx hb dL_holds_79 rfl (lv_at hl 0 rfl) ?_
      refine lv_iconst (v := (nI 3)) hx hb dL_holds_80 (by decide) ?_
      refine lv_icmp_ne (tgt := 93) hx hb dL_holds_81 (by decide) (fun c_81 => ?_) (fun c_81 => ?_)
      rotate_left
      · exact absurd c_81 (by decide)
      refine lv_iload_n hx hb dL_holds_93 rfl (lv_at hl 0 rfl) ?_
      refine lv_iconst (v := (nI 4)) hx hb dL_holds_94 (by decide) ?_
      refine lv_icmp_ne (tgt := 104) hx hb dL_holds_95 (by decide) (fun c_95 => ?_) (fun c_95 => ?_)
      rotate_left
      · exact absurd c_95 (by decide)
      refine lv_iload_n hx hb dL_holds_104 rfl (lv_at hl 0 rfl) ?_
      refine lv_iconst (v := (nI 5)) hx hb dL_holds_105 (by decide) ?_
      refine lv_icmp_ne (tgt := 122) hx hb dL_holds_106 (by decide) (fun c_106 => ?_) (fun c_106 => ?_)
      · exact absurd c_106 (by decide)
      refine lv_aload_n hx hb dL_holds_109 rfl (lv_at hl 3 rfl) ?_
      refine lv_aload_n hx hb dL_holds_110 rfl (lv_at hl 3 rfl) ?_
      refine lv_iload_n hx hb dL_holds_111 rfl (lv_at hl 1 rfl) ?_
      refine fs_iald E hP (k := j) hcw hj (vp_in_nI (by omega) (by omega)) dL_holds_112 ?_
      refine fs_vi (y := f a) (congrArg f (nI_clamp (by omega))) ?_
      refine fs_vi (y := (nI (w a))) (hfw _ (by omega)) ?_
      refine fs_iald E hP (k := j) hcw hj (vp_in_nI (by omega) (by omega)) dL_holds_113 ?_
      refine fs_vi (y := f (w a)) (congrArg f (nI_clamp (by omega))) ?_
      refine fs_vi (y := (nI (w (w a)))) (hfw _ (by omega)) ?_
      refine lv_iload_n hx hb dL_holds_114 rfl (lv_at hl 2 rfl) ?_
      refine lv_icmp_ne (tgt := 122) hx hb dL_holds_115 (by decide) (fun c_115 => ?_) (fun c_115 => ?_)
      · rw [nI_eq (by omega) (by omega)] at c_115
        refine lv_iconst (v := (nI 0)) hx hb dL_holds_122 (by decide) ?_
        refine fs_pzret E hr rfl hlk hS dL_holds_123 ?_
        exact bI_f (by simp only [hd, decide_eq_true_eq]; omega)
      · rw [nI_eq (by omega) (by omega)] at c_115
        refine lv_iconst (v := (nI 1)) hx hb dL_holds_118 (by decide) ?_
        refine lv_goto (tgt := 123) hx hb dL_holds_119 (by decide) ?_
        refine fs_pzret E hr rfl hlk hS dL_holds_123 ?_
        exact bI_t (by simp only [hd, decide_eq_true_eq]; omega)
  · rw [nI_leI (by omega) (by omega)] at c_10
    have hwi := hw i (by omega)
    refine lv_iload hx hb dL_holds_13 (lv_at hl 5 rfl) ?_
    refine lv_aload_n hx hb dL_holds_15 rfl (lv_at hl 3 rfl) ?_
    refine lv_iload hx hb dL_holds_16 (lv_at hl 6 rfl) ?_
    refine fs_iald E hP (k := j) hcw hj (vp_in_nI (by omega) (by omega)) dL_holds_18 ?_
    refine fs_vi (y := f i) (congrArg f (nI_clamp (by omega))) ?_
    refine fs_vi (y := (nI (w i))) (hfw _ (by omega)) ?_
    refine lv_iload_n hx hb dL_holds_19 rfl (lv_at hl 1 rfl) ?_
    refine lv_icmp_ne (tgt := 27) hx hb dL_holds_20 (by decide) (fun c_20 => ?_) (fun c_20 => ?_)
    · rw [nI_eq (by omega) (by omega)] at c_20
      refine lv_iconst (v := (nI 0)) hx hb dL_holds_27 (by decide) ?_
      refine lv_iadd hx hb dL_holds_28 ?_
      refine fs_vi (y := (nI (cN (fun p => decide (w p = a)) (i + 1)))) (by rw [cN_f (decide_eq_false c_20)]; exact nI_add _ 0) ?_
      refine lv_istore (lv' := [(5, .int (nI (cN (fun p => decide (w p = a)) (i + 1)))), (0, .int (nI kd)), (1, .int (nI a)), (2, .int (nI b)), (3, .ref (fa g j)), (4, .int (nI n)), (6, .int (nI i))]) hx hb dL_holds_29 hl (by decide) rfl (fun ls hl => ?_)
      refine lv_iinc (v := (nI (i + 1))) (lv' := [(6, .int (nI (i + 1))), (5, .int (nI (cN (fun p => decide (w p = a)) (i + 1)))), (0, .int (nI kd)), (1, .int (nI a)), (2, .int (nI b)), (3, .ref (fa g j)), (4, .int (nI n))]) hx hb dL_holds_31 hl (k := 6) rfl (nI_1 _) (by decide) rfl (fun ls hl => ?_)
      refine lv_goto (tgt := 6) hx hb dL_holds_34 (by decide) ?_
      exact ih (i + 1) ls _ (by (try dsimp only); omega) ⟨lv_sub hl [2, 3, 4, 5, 6, 1, 0] rfl, by omega⟩ hS
    · rw [nI_eq (by omega) (by omega)] at c_20
      refine lv_iconst (v := (nI 1)) hx hb dL_holds_23 (by decide) ?_
      refine lv_goto (tgt := 28) hx hb dL_holds_24 (by decide) ?_
      refine lv_iadd hx hb dL_holds_28 ?_
      refine fs_vi (y := (nI (cN (fun p => decide (w p = a)) (i + 1)))) (by rw [cN_t (decide_eq_true c_20)]; exact nI_add _ _) ?_
      refine lv_istore (lv' := [(5, .int (nI (cN (fun p => decide (w p = a)) (i + 1)))), (0, .int (nI kd)), (1, .int (nI a)), (2, .int (nI b)), (3, .ref (fa g j)), (4, .int (nI n)), (6, .int (nI i))]) hx hb dL_holds_29 hl (by decide) rfl (fun ls hl => ?_)
      refine lv_iinc (v := (nI (i + 1))) (lv' := [(6, .int (nI (i + 1))), (5, .int (nI (cN (fun p => decide (w p = a)) (i + 1)))), (0, .int (nI kd)), (1, .int (nI a)), (2, .int (nI b)), (3, .ref (fa g j)), (4, .int (nI n))]) hx hb dL_holds_31 hl (k := 6) rfl (nI_1 _) (by decide) rfl (fun ls hl => ?_)
      refine lv_goto (tgt := 6) hx hb dL_holds_34 (by decide) ?_
      exact ih (i + 1) ls _ (by (try dsimp only); omega) ⟨lv_sub hl [2, 3, 4, 5, 6, 1, 0] rfl, by omega⟩ hS

set_option maxRecDepth 100000 in
set_option maxHeartbeats 4000000 in
theorem c_L_of (l : Launch) (g : fG) (N : Nat) (ct : Nat → va_E) (σ : Nat → Int32) (hN : 246 ≤ N) (hG : Good σ) (h12 : nT σ ≤ 12) (fr : Nat → Int32) (hcr : ct 242 = .inl (fcI g, 60, .inl fr)) (hR : LR σ fr) (j : Nat) (f : Nat → Int32) (w : Nat → Nat) (hj : j < N) (hfw : ∀ p, p < nB σ → f p = nI (w p)) (hw : Wok (nB σ) w) (hcw : ct j = .inl (fcI g, 6, .inl f)) (r0 : Nat) (hr0 : r0 < nT σ) : Met l yL_of (wsU yL_of cL_of 4 (some .boolean)) rL_of (fPre g N ct [.int (nI r0), .ref (fa g 242), .ref (fa g j), .int (nI (nB σ))]) (fQpi (fun r => r = bI (hdr σ w r0 = true))) 0 0 (fB g) := by
  refine fs_start (own := RL) (lv0 := [(0, .int (nI r0)), (1, .ref (fa g 242)), (2, .ref (fa g j)), (3, .int (nI (nB σ)))]) (by decide) rfl (Nat.le_of_ble_eq_true rfl) rfl ?_
  intro p e s m args below meth c ls E hr hlk hnm hP hl hS
  have hx := E.1.1
  have hb := E.1.2.1
  have hn3 := hG.n3
  have hn6 := hG.n6
  refine lv_aload_n hx hb dL_of_0 rfl (lv_at hl 1 rfl) ?_
  refine lv_iconst (v := (nI 5)) hx hb dL_of_1 (by decide) ?_
  refine lv_iload_n hx hb dL_of_2 rfl (lv_at hl 0 rfl) ?_
  refine lv_imul hx hb dL_of_3 ?_
  refine fs_vi (y := nI (5 * r0)) (pk_mul _ _) ?_
  refine lv_iconst (v := (nI 1)) hx hb dL_of_4 (by decide) ?_
  refine lv_iadd hx hb dL_of_5 ?_
  refine fs_vi (y := nI (5 * r0 + 1)) (nI_add _ _) ?_
  refine fs_iald E hP (k := 242) hcr (by omega) (vp_in_nI (by omega) (by omega)) dL_of_6 ?_
  refine fs_vi (y := fr (5 * r0 + 1)) (congrArg fr (nI_clamp (by omega))) ?_
  refine fs_vi (y := (nI (rk σ r0 1))) (hR r0 1 (by omega) (by omega)) ?_
  refine lv_aload_n hx hb dL_of_7 rfl (lv_at hl 1 rfl) ?_
  refine lv_iconst (v := (nI 5)) hx hb dL_of_8 (by decide) ?_
  refine lv_iload_n hx hb dL_of_9 rfl (lv_at hl 0 rfl) ?_
  refine lv_imul hx hb dL_of_10 ?_
  refine fs_vi (y := nI (5 * r0)) (pk_mul _ _) ?_
  refine lv_iconst (v := (nI 2)) hx hb dL_of_11 (by decide) ?_
  refine lv_iadd hx hb dL_of_12 ?_
  refine fs_vi (y := nI (5 * r0 + 2)) (nI_add _ _) ?_
  refine fs_iald E hP (k := 242) hcr (by omega) (vp_in_nI (by omega) (by omega)) dL_of_13 ?_
  refine fs_vi (y := fr (5 * r0 + 2)) (congrArg fr (nI_clamp (by omega))) ?_
  refine fs_vi (y := (nI (rk σ r0 2))) (hR r0 2 (by omega) (by omega)) ?_
  refine lv_aload_n hx hb dL_of_14 rfl (lv_at hl 1 rfl) ?_
  refine lv_iconst (v := (nI 5)) hx hb dL_of_15 (by decide) ?_
  refine lv_iload_n hx hb dL_of_16 rfl (lv_at hl 0 rfl) ?_
  refine lv_imul hx hb dL_of_17 ?_
  refine fs_vi (y := nI (5 * r0)) (pk_mul _ _) ?_
  refine lv_iconst (v := (nI 3)) hx hb dL_of_18 (by decide) ?_
  refine lv_iadd hx hb dL_of_19 ?_
  refine fs_vi (y := nI (5 * r0 + 3)) (nI_add _ _) ?_
  refine fs_iald E hP (k := 242) hcr (by omega) (vp_in_nI (by omega) (by omega)) dL_of_20 ?_
  refine fs_vi (y := fr (5 * r0 + 3)) (congrArg fr (nI_clamp (by omega))) ?_
  refine fs_vi (y := (nI (rk σ r0 3))) (hR r0 3 (by omega) (by omega)) ?_
  refine lv_aload_n hx hb dL_of_21 rfl (lv_at hl 2 rfl) ?_
  refine lv_iload_n hx hb dL_of_22 rfl (lv_at hl 3 rfl) ?_
  refine fs_pi (va_runS (As := [.int (nI (rk σ r0 1)), .int (nI (rk σ r0 2)), .int (nI (rk σ r0 3)), .ref (fa g j), .int (nI (nB σ))]) (rest := []) E.1 (c_L_holds l g N ct (nB σ) (rk σ r0 1) (rk σ r0 2) (rk σ r0 3) j f w hj hn6 (hG.r hr0).2.2.1 hfw hw hcw) (lk_RL_10 E.1.2.2.2.2 ⟨Nat.le_of_ble_eq_true rfl, Nat.le_of_ble_eq_true rfl⟩) (fpreS E hP hS) rfl rfl hl.1 rfl (lv_room (Nat.le_of_ble_eq_true rfl)) dL_of_23 ⟨Nat.zero_le _, Nat.zero_le _⟩) hS (fun r_23 locs p_23 hS => ?_)
  refine fs_pzret E hr (fb_n p_23) hlk hS dL_of_26 ?_
  exact p_23

set_option maxRecDepth 100000 in
set_option maxHeartbeats 4000000 in
theorem c_L_may (l : Launch) (g : fG) (N : Nat) (ct : Nat → va_E) (σ : Nat → Int32) (hN : 246 ≤ N) (hG : Good σ) (h12 : nT σ ≤ 12) (fr : Nat → Int32) (hcr : ct 242 = .inl (fcI g, 60, .inl fr)) (hR : LR σ fr) (fq : Nat → Int32) (hcq : ct 243 = .inl (fcI g, 3, .inl fq)) (hQ : fq 0 = nI (nB σ) ∧ fq 1 = nI (nT σ)) (j : Nat) (f : Nat → Int32) (w : Nat → Nat) (hj : j < N) (hfw : ∀ p, p < nB σ → f p = nI (w p)) (hw : Wok (nB σ) w) (hcw : ct j = .inl (fcI g, 6, .inl f)) (x : Int32) : Met l yL_may (wsU yL_may cL_may 5 (some .boolean)) rL_may (fPre g N ct [.ref (fa g 243), .ref (fa g 242), .ref (fa g j), .int x]) (fQpi (fun r => r = bI (∀ r, r < nT σ → x = nI r ∨ bad σ w r = false))) 0 0 (fB g) := by
  refine fs_start (own := RL) (lv0 := [(0, .ref (fa g 243)), (1, .ref (fa g 242)), (2, .ref (fa g j)), (3, .int x)]) (by decide) rfl (Nat.le_of_ble_eq_true rfl) rfl ?_
  intro p e s m args below meth c ls E hr hlk hnm hP hl hS
  have hx := E.1.1
  have hb := E.1.2.1
  have hn3 := hG.n3
  have hn6 := hG.n6
  refine lv_iconst (v := (nI 0)) hx hb dL_may_0 (by decide) ?_
  refine lv_istore (lv' := [(4, .int (nI 0)), (0, .ref (fa g 243)), (1, .ref (fa g 242)), (2, .ref (fa g j)), (3, .int x)]) hx hb dL_may_1 hl (by decide) rfl (fun ls hl => ?_)
  refine fs_indP (g := g) (St := Nat) (fun (i : Nat) (ls : Array Slot) => lv_has ls 5 [(0, .ref (fa g 243)), (1, .ref (fa g 242)), (2, .ref (fa g j)), (3, .int x), (4, .int (nI i))] ∧ i ≤ nT σ ∧ ∀ r, r < i → x = nI r ∨ bad σ w r = false) (fun (i : Nat) => nT σ - i) ?_ 0 ls _ ⟨lv_sub hl [1, 2, 3, 4, 0] rfl, Nat.zero_le _, fun r hr => absurd hr (by omega)⟩ hS
  clear hl hS
  intro st ls locs hI hS ih
  obtain ⟨i, rfl⟩ : ∃ z, z = st := ⟨_, rfl⟩
  obtain ⟨hl, hI⟩ := hI
  have hI1 := hI.1
  refine lv_iload hx hb dL_may_3 (lv_at hl 4 rfl) ?_
  refine lv_aload_n hx hb dL_may_5 rfl (lv_at hl 0 rfl) ?_
  refine lv_iconst (v := (nI 1)) hx hb dL_may_6 (by decide) ?_
  refine fs_iald E hP (k := 243) hcq (by omega) (vp_in_nI (by omega) (by omega)) dL_may_7 ?_
  refine fs_vi (y := fq 1) (congrArg fq (nI_clamp (by omega))) ?_
  refine fs_vi (y := (nI (nT σ))) hQ.2 ?_
  refine lv_icmp_ge (tgt := 66) hx hb dL_may_8 (by decide) (fun c_8 => ?_) (fun c_8 => ?_)
  · rw [nI_leI (by omega) (by omega)] at c_8
    refine lv_iconst (v := (nI 1)) hx hb dL_may_66 (by decide) ?_
    refine fs_pzret E hr rfl hlk hS dL_may_67 ?_
    exact bI_t (fun r hr => hI.2 r (by omega))
  · rw [nI_leI (by omega) (by omega)] at c_8
    refine lv_iload hx hb dL_may_11 (lv_at hl 4 rfl) ?_
    refine lv_iload_n hx hb dL_may_13 rfl (lv_at hl 3 rfl) ?_
    refine lv_icmp_eq (tgt := 60) hx hb dL_may_14 (by decide) (fun c_14 => ?_) (fun c_14 => ?_)
    · refine lv_iinc (v := (nI (i + 1))) (lv' := [(4, .int (nI (i + 1))), (0, .ref (fa g 243)), (1, .ref (fa g 242)), (2, .ref (fa g j)), (3, .int x)]) hx hb dL_may_60 hl (k := 4) rfl (nI_1 _) (by decide) rfl (fun ls hl => ?_)
      refine lv_goto (tgt := 3) hx hb dL_may_63 (by decide) ?_
      exact ih (i + 1) ls _ (by (try dsimp only); omega) ⟨lv_sub hl [1, 2, 3, 4, 0] rfl, by omega, fun r hr => (Nat.lt_or_ge r i).elim (fun z => hI.2 r z) (fun z => by rw [show r = i by omega]; exact Or.inl c_14.symm)⟩ hS
    · have hst := (hG.how4 (show i < nT σ by omega)).2
      refine lv_aload_n hx hb dL_may_17 rfl (lv_at hl 1 rfl) ?_
      refine lv_iconst (v := (nI 5)) hx hb dL_may_18 (by decide) ?_
      refine lv_iload hx hb dL_may_19 (lv_at hl 4 rfl) ?_
      refine lv_imul hx hb dL_may_21 ?_
      refine fs_vi (y := nI (5 * i)) (pk_mul _ _) ?_
      refine lv_iconst (v := (nI 4)) hx hb dL_may_22 (by decide) ?_
      refine lv_iadd hx hb dL_may_23 ?_
      refine fs_vi (y := nI (5 * i + 4)) (nI_add _ _) ?_
      refine fs_iald E hP (k := 242) hcr (by omega) (vp_in_nI (by omega) (by omega)) dL_may_24 ?_
      refine fs_vi (y := fr (5 * i + 4)) (congrArg fr (nI_clamp (by omega))) ?_
      refine fs_vi (y := (nI (rk σ i 4))) (hR i 4 (by omega) (by omega)) ?_
      refine lv_if_eq (tgt := 60) hx hb dL_may_25 (by decide) (fun c_25 => ?_) (fun c_25 => ?_)
      · rw [fz_eqN (by omega)] at c_25
        refine lv_iinc (v := (nI (i + 1))) (lv' := [(4, .int (nI (i + 1))), (0, .ref (fa g 243)), (1, .ref (fa g 242)), (2, .ref (fa g j)), (3, .int x)]) hx hb dL_may_60 hl (k := 4) rfl (nI_1 _) (by decide) rfl (fun ls hl => ?_)
        refine lv_goto (tgt := 3) hx hb dL_may_63 (by decide) ?_
        exact ih (i + 1) ls _ (by (try dsimp only); omega) ⟨lv_sub hl [1, 2, 3, 4, 0] rfl, by omega, fun r hr => (Nat.lt_or_ge r i).elim (fun z => hI.2 r z) (fun z => by rw [show r = i by omega]; exact Or.inr (bad_op c_25))⟩ hS
      · rw [fz_eqN (by omega)] at c_25
        refine lv_iload hx hb dL_may_28 (lv_at hl 4 rfl) ?_
        refine lv_aload_n hx hb dL_may_30 rfl (lv_at hl 1 rfl) ?_
        refine lv_aload_n hx hb dL_may_31 rfl (lv_at hl 2 rfl) ?_
        refine lv_aload_n hx hb dL_may_32 rfl (lv_at hl 0 rfl) ?_
        refine lv_iconst (v := (nI 0)) hx hb dL_may_33 (by decide) ?_
        refine fs_iald E hP (k := 243) hcq (by omega) (vp_in_nI (by omega) (by omega)) dL_may_34 ?_
        refine fs_vi (y := fq 0) (congrArg fq (nI_clamp (by omega))) ?_
        refine fs_vi (y := (nI (nB σ))) hQ.1 ?_
        refine fs_pi (va_runS (As := [.int (nI i), .ref (fa g 242), .ref (fa g j), .int (nI (nB σ))]) (rest := []) E.1 (c_L_of l g N ct σ (by omega) hG h12 fr hcr hR j f w hj hfw hw hcw i (by omega)) (lk_RL_16 E.1.2.2.2.2 ⟨Nat.le_of_ble_eq_true rfl, Nat.le_of_ble_eq_true rfl⟩) (fpreS E hP hS) rfl rfl hl.1 rfl (lv_room (Nat.le_of_ble_eq_true rfl)) dL_may_35 ⟨Nat.zero_le _, Nat.zero_le _⟩) hS (fun r_35 locs p_35 hS => ?_)
        refine lv_aload_n hx hb dL_may_38 rfl (lv_at hl 1 rfl) ?_
        refine lv_iconst (v := (nI 5)) hx hb dL_may_39 (by decide) ?_
        refine lv_iload hx hb dL_may_40 (lv_at hl 4 rfl) ?_
        refine lv_imul hx hb dL_may_42 ?_
        refine fs_vi (y := nI (5 * i)) (pk_mul _ _) ?_
        refine lv_iconst (v := (nI 4)) hx hb dL_may_43 (by decide) ?_
        refine lv_iadd hx hb dL_may_44 ?_
        refine fs_vi (y := nI (5 * i + 4)) (nI_add _ _) ?_
        refine fs_iald E hP (k := 242) hcr (by omega) (vp_in_nI (by omega) (by omega)) dL_may_45 ?_
        refine fs_vi (y := fr (5 * i + 4)) (congrArg fr (nI_clamp (by omega))) ?_
        refine fs_vi (y := (nI (rk σ i 4))) (hR i 4 (by omega) (by omega)) ?_
        refine lv_iconst (v := (nI 1)) hx hb dL_may_46 (by decide) ?_
        refine lv_icmp_ne (tgt := 54) hx hb dL_may_47 (by decide) (fun c_47 => ?_) (fun c_47 => ?_)
        · rw [nI_eq (by omega) (by omega)] at c_47
          refine lv_iconst (v := (nI 0)) hx hb dL_may_54 (by decide) ?_
          refine lv_icmp_eq (tgt := 60) hx hb dL_may_55 (by decide) (fun c_55 => ?_) (fun c_55 => ?_)
          · refine lv_iinc (v := (nI (i + 1))) (lv' := [(4, .int (nI (i + 1))), (0, .ref (fa g 243)), (1, .ref (fa g 242)), (2, .ref (fa g j)), (3, .int x)]) hx hb dL_may_60 hl (k := 4) rfl (nI_1 _) (by decide) rfl (fun ls hl => ?_)
            refine lv_goto (tgt := 3) hx hb dL_may_63 (by decide) ?_
            have hbd : bad σ w i = false := by rw [bad_re (by omega), Bool.eq_false_iff.mpr (bI0 (p_35.symm.trans c_55))]
            exact ih (i + 1) ls _ (by (try dsimp only); omega) ⟨lv_sub hl [1, 2, 3, 4, 0] rfl, by omega, fun r hr => (Nat.lt_or_ge r i).elim (fun z => hI.2 r z) (fun z => by rw [show r = i by omega]; exact Or.inr hbd)⟩ hS
          · have hbd : bad σ w i = true := by rw [bad_re (by omega)]; exact bI0n (fun z => c_55 (p_35.trans z))
            refine lv_iconst (v := (nI 0)) hx hb dL_may_58 (by decide) ?_
            refine fs_pzret E hr rfl hlk hS dL_may_59 ?_
            exact bI_f (fun z => (z i (by omega)).elim (fun y => c_14 y.symm) (fun y => by rw [hbd] at y; cases y))
        · rw [nI_eq (by omega) (by omega)] at c_47
          refine lv_iconst (v := (nI 1)) hx hb dL_may_50 (by decide) ?_
          refine lv_goto (tgt := 55) hx hb dL_may_51 (by decide) ?_
          refine lv_icmp_eq (tgt := 60) hx hb dL_may_55 (by decide) (fun c_55 => ?_) (fun c_55 => ?_)
          · refine lv_iinc (v := (nI (i + 1))) (lv' := [(4, .int (nI (i + 1))), (0, .ref (fa g 243)), (1, .ref (fa g 242)), (2, .ref (fa g j)), (3, .int x)]) hx hb dL_may_60 hl (k := 4) rfl (nI_1 _) (by decide) rfl (fun ls hl => ?_)
            refine lv_goto (tgt := 3) hx hb dL_may_63 (by decide) ?_
            have hbd : bad σ w i = false := by rw [bad_pr c_47, bI1 (p_35.symm.trans c_55)]; rfl
            exact ih (i + 1) ls _ (by (try dsimp only); omega) ⟨lv_sub hl [1, 2, 3, 4, 0] rfl, by omega, fun r hr => (Nat.lt_or_ge r i).elim (fun z => hI.2 r z) (fun z => by rw [show r = i by omega]; exact Or.inr hbd)⟩ hS
          · have hbd : bad σ w i = true := by rw [bad_pr c_47, Bool.eq_false_iff.mpr (bI1n (fun z => c_55 (p_35.trans z)))]; rfl
            refine lv_iconst (v := (nI 0)) hx hb dL_may_58 (by decide) ?_
            refine fs_pzret E hr rfl hlk hS dL_may_59 ?_
            exact bI_f (fun z => (z i (by omega)).elim (fun y => c_14 y.symm) (fun y => by rw [hbd] at y; cases y))

set_option maxRecDepth 100000 in
set_option maxHeartbeats 4000000 in
theorem c_L_first (l : Launch) (g : fG) (N : Nat) (ct : Nat → va_E) (σ : Nat → Int32) (hN : 246 ≤ N) (hG : Good σ) (fq : Nat → Int32) (hcq : ct 243 = .inl (fcI g, 3, .inl fq)) (hQ : fq 0 = nI (nB σ) ∧ fq 1 = nI (nT σ)) (fw : Nat → Int32) (hcw : ct 244 = .inl (fcI g, 6, .inl fw)) : Met l yL_first (wsU yL_first cL_first 3 none) rL_first (fPre g N ct [.ref (fa g 243), .ref (fa g 244)]) (fQv g N (fun ct1 => ∃ f1 : Nat → Int32, ct1 = fu ct 244 (.inl (fcI g, 6, .inl f1)) ∧ ∀ p, p < nB σ → f1 p = nI (wd (nB σ) 0 p))) 0 0 (fB g) := by
  refine fs_start (own := RL) (lv0 := [(0, .ref (fa g 243)), (1, .ref (fa g 244))]) (by decide) rfl (Nat.le_of_ble_eq_true rfl) rfl ?_
  intro p e s m args below meth c ls E hr hlk hnm hP hl hS
  have hx := E.1.1
  have hb := E.1.2.1
  have hn3 := hG.n3
  have hn6 := hG.n6
  refine lv_iconst (v := (nI 0)) hx hb dL_first_0 (by decide) ?_
  refine lv_istore_n (lv' := [(2, .int (nI 0)), (0, .ref (fa g 243)), (1, .ref (fa g 244))]) hx hb dL_first_1 rfl hl (by decide) rfl (fun ls hl => ?_)
  refine fs_ind (g := g) (N := N) (St := Nat) (fun (i : Nat) (ct_1 : Nat → va_E) (ls : Array Slot) => lv_has ls 3 [(0, .ref (fa g 243)), (1, .ref (fa g 244)), (2, .int (nI i))] ∧ ∃ fx : Nat → Int32, ct_1 = fu ct 244 (.inl (fcI g, 6, .inl fx)) ∧ i ≤ nB σ ∧ ∀ p, p < i → fx p = nI (wd (nB σ) 0 p)) (fun i => nB σ - i) ?_ 0 _ _ ls _ ⟨lv_sub hl [1, 2, 0] rfl, ⟨_, by rw [fu_same hcw], by omega, fun p hp => absurd hp (by omega)⟩⟩ hP hS
  clear hl hP hS
  intro st ct_1 H ls locs hI hP hS ih
  obtain ⟨i, rfl⟩ : ∃ z, z = st := ⟨_, rfl⟩
  obtain ⟨hl, fx, hct, hI⟩ := hI
  have h_2 : ct_1 243 = .inl (fcI g, 3, .inl fq) := by rw [hct]; exact (fu_ne (by omega)).trans hcq
  have h_3 : ct_1 244 = .inl (fcI g, 6, .inl fx) := by rw [hct]; exact fu_eq _ _ _
  have hI1 := hI.1
  refine lv_iload_n hx hb dL_first_2 rfl (lv_at hl 2 rfl) ?_
  refine lv_aload_n hx hb dL_first_3 rfl (lv_at hl 0 rfl) ?_
  refine lv_iconst (v := (nI 0)) hx hb dL_first_4 (by decide) ?_
  refine fs_iald E hP (k := 243) h_2 (by omega) (vp_in_nI (by omega) (by omega)) dL_first_5 ?_
  refine fs_vi (y := fq 0) (congrArg fq (nI_clamp (by omega))) ?_
  refine fs_vi (y := (nI (nB σ))) hQ.1 ?_
  refine lv_icmp_ge (tgt := 27) hx hb dL_first_6 (by decide) (fun c_6 => ?_) (fun c_6 => ?_)
  · rw [nI_leI (by omega) (by omega)] at c_6
    refine fs_vret E hr hlk hP hS dL_first_27 ?_
    exact ⟨fx, hct, fun p hp => hI.2 p (by omega)⟩
  · rw [nI_leI (by omega) (by omega)] at c_6
    refine lv_aload_n hx hb dL_first_9 rfl (lv_at hl 1 rfl) ?_
    refine lv_iload_n hx hb dL_first_10 rfl (lv_at hl 2 rfl) ?_
    refine lv_iload_n hx hb dL_first_11 rfl (lv_at hl 2 rfl) ?_
    refine lv_if_ne (tgt := 19) hx hb dL_first_12 (by decide) (fun c_12 => ?_) (fun c_12 => ?_)
    · rw [fz_eqN (by omega)] at c_12
      refine lv_iconst (v := (nI 0)) hx hb dL_first_19 (by decide) ?_
      refine fs_vi (y := nI (wd (nB σ) 0 i)) (congrArg nI (by unfold wd; rw [dgt_0, bxd_0, if_neg c_12])) ?_
      refine fs_iast E hP hS (k := 244) h_3 (by omega) (vp_in_nI (by omega) (by omega)) dL_first_20 (fun ct_4 H locs q_5 hP hS => ?_)
      rw [nI_clamp (by omega)] at q_5
      have h_6 : ct_4 243 = .inl (fcI g, 3, .inl fq) := by rw [q_5]; exact (fu_ne (by omega)).trans h_2
      have h_7 : ct_4 244 = .inl (fcI g, 6, .inl (upd fx i (nI (wd (nB σ) 0 i)))) := by rw [q_5]; exact fu_eq _ _ _
      refine lv_iinc (v := (nI (i + 1))) (lv' := [(2, .int (nI (i + 1))), (0, .ref (fa g 243)), (1, .ref (fa g 244))]) hx hb dL_first_21 hl (k := 2) rfl (nI_1 _) (by decide) rfl (fun ls hl => ?_)
      refine lv_goto (tgt := 2) hx hb dL_first_24 (by decide) ?_
      exact ih (i + 1) _ _ ls _ (by omega) ⟨lv_sub hl [1, 2, 0] rfl, ⟨_, by rw [q_5, hct, fu_fu], by omega, fun p hp => (Nat.lt_or_ge p i).elim (fun q => (upd_ne (by omega)).trans (hI.2 p q)) (fun q => by rw [show p = i by omega]; exact upd_eq _ _ _)⟩⟩ hP hS
    · rw [fz_eqN (by omega)] at c_12
      refine lv_iconst (v := (nI 1)) hx hb dL_first_15 (by decide) ?_
      refine lv_goto (tgt := 20) hx hb dL_first_16 (by decide) ?_
      refine fs_vi (y := nI (wd (nB σ) 0 i)) (congrArg nI (by unfold wd; rw [dgt_0, bxd_0, if_pos c_12])) ?_
      refine fs_iast E hP hS (k := 244) h_3 (by omega) (vp_in_nI (by omega) (by omega)) dL_first_20 (fun ct_8 H locs q_9 hP hS => ?_)
      rw [nI_clamp (by omega)] at q_9
      have h_10 : ct_8 243 = .inl (fcI g, 3, .inl fq) := by rw [q_9]; exact (fu_ne (by omega)).trans h_2
      have h_11 : ct_8 244 = .inl (fcI g, 6, .inl (upd fx i (nI (wd (nB σ) 0 i)))) := by rw [q_9]; exact fu_eq _ _ _
      refine lv_iinc (v := (nI (i + 1))) (lv' := [(2, .int (nI (i + 1))), (0, .ref (fa g 243)), (1, .ref (fa g 244))]) hx hb dL_first_21 hl (k := 2) rfl (nI_1 _) (by decide) rfl (fun ls hl => ?_)
      refine lv_goto (tgt := 2) hx hb dL_first_24 (by decide) ?_
      exact ih (i + 1) _ _ ls _ (by omega) ⟨lv_sub hl [1, 2, 0] rfl, ⟨_, by rw [q_9, hct, fu_fu], by omega, fun p hp => (Nat.lt_or_ge p i).elim (fun q => (upd_ne (by omega)).trans (hI.2 p q)) (fun q => by rw [show p = i by omega]; exact upd_eq _ _ _)⟩⟩ hP hS

set_option maxRecDepth 100000 in
set_option maxHeartbeats 4000000 in
theorem c_L_next (l : Launch) (g : fG) (N : Nat) (ct : Nat → va_E) (σ : Nat → Int32) (hN : 246 ≤ N) (hG : Good σ) (fq : Nat → Int32) (hcq : ct 243 = .inl (fcI g, 3, .inl fq)) (hQ : fq 0 = nI (nB σ) ∧ fq 1 = nI (nT σ)) (fw : Nat → Int32) (hcw : ct 244 = .inl (fcI g, 6, .inl fw)) (mm : Nat) (hm : mm < mM σ) (hfw : ∀ p, p < nB σ → fw p = nI (wd (nB σ) mm p)) : Met l yL_next (wsU yL_next cL_next 3 (some .boolean)) rL_next (fPre g N ct [.ref (fa g 243), .ref (fa g 244)]) (fQi g N (fun r ct1 => ∃ f1 : Nat → Int32, ct1 = fu ct 244 (.inl (fcI g, 6, .inl f1)) ∧ ((mm + 1 < mM σ ∧ r = nI 1 ∧ ∀ p, p < nB σ → f1 p = nI (wd (nB σ) (mm + 1) p)) ∨ (mm + 1 = mM σ ∧ r = nI 0)))) 0 0 (fB g) := by
  refine fs_start (own := RL) (lv0 := [(0, .ref (fa g 243)), (1, .ref (fa g 244))]) (by decide) rfl (Nat.le_of_ble_eq_true rfl) rfl ?_
  intro p e s m args below meth c ls E hr hlk hnm hP hl hS
  have hx := E.1.1
  have hb := E.1.2.1
  have hn3 := hG.n3
  have hn6 := hG.n6
  refine lv_aload_n hx hb dL_next_0 rfl (lv_at hl 0 rfl) ?_
  refine lv_iconst (v := (nI 0)) hx hb dL_next_1 (by decide) ?_
  refine fs_iald E hP (k := 243) hcq (by omega) (vp_in_nI (by omega) (by omega)) dL_next_2 ?_
  refine fs_vi (y := fq 0) (congrArg fq (nI_clamp (by omega))) ?_
  refine fs_vi (y := (nI (nB σ))) hQ.1 ?_
  refine lv_iconst (v := (nI 1)) hx hb dL_next_3 (by decide) ?_
  refine lv_isub hx hb dL_next_4 ?_
  refine fs_vi (y := (mI (nB σ))) (mI_sub (by omega)) ?_
  refine lv_istore_n (lv' := [(2, .int (mI (nB σ))), (0, .ref (fa g 243)), (1, .ref (fa g 244))]) hx hb dL_next_5 rfl hl (by decide) rfl (fun ls hl => ?_)
  refine fs_ind (g := g) (N := N) (St := Nat) (fun (t : Nat) (ct_1 : Nat → va_E) (ls : Array Slot) => lv_has ls 3 [(0, .ref (fa g 243)), (1, .ref (fa g 244)), (2, .int (mI t))] ∧ ∃ fx : Nat → Int32, ct_1 = fu ct 244 (.inl (fcI g, 6, .inl fx)) ∧ t ≤ nB σ ∧ mm % (nB σ - 1) ^ (nB σ - t) + 1 = (nB σ - 1) ^ (nB σ - t) ∧ ∀ p, p < nB σ → fx p = if p < t then nI (wd (nB σ) mm p) else nI (bxd p 0)) (fun t => t) ?_ (nB σ) _ _ ls _ ⟨lv_sub hl [1, 2, 0] rfl, ⟨_, by rw [fu_same hcw], Nat.le_refl _, by rw [Nat.sub_self, Nat.pow_zero, Nat.mod_one], fun p9 hp9 => by rw [if_pos hp9]; exact hfw p9 hp9⟩⟩ hP hS
  clear hl hP hS
  intro st ct_1 H ls locs hI hP hS ih
  obtain ⟨t, rfl⟩ : ∃ z, z = st := ⟨_, rfl⟩
  obtain ⟨hl, fx, hct, hI⟩ := hI
  have h_2 : ct_1 243 = .inl (fcI g, 3, .inl fq) := by rw [hct]; exact (fu_ne (by omega)).trans hcq
  have h_3 : ct_1 244 = .inl (fcI g, 6, .inl fx) := by rw [hct]; exact fu_eq _ _ _
  have hI1 := hI.1
  refine lv_iload_n hx hb dL_next_6 rfl (lv_at hl 2 rfl) ?_
  refine lv_if_lt (tgt := 59) hx hb dL_next_7 (by decide) (fun c_7 => ?_) (fun c_7 => ?_)
  · rw [mI_lt (by omega)] at c_7
    refine lv_iconst (v := (nI 0)) hx hb dL_next_59 (by decide) ?_
    refine fs_zret E hr rfl hlk hP hS dL_next_60 ?_
    refine ⟨fx, hct, Or.inr ⟨?_, rfl⟩⟩
    have e1 := hI.2.1
    rw [c_7, Nat.sub_zero] at e1
    unfold mM wM at hm ⊢
    rw [Nat.mod_eq_of_lt hm] at e1
    exact e1
  · rw [mI_lt (by omega)] at c_7
    rw [mI_p (by omega)] at hl
    have hwt : fx (t - 1) = nI (bxd (t - 1) (dgt (nB σ - 1) mm (nB σ - t))) := by rw [hI.2.2 _ (by omega), if_pos (by omega)]; unfold wd; rw [show nB σ - 1 - (t - 1) = nB σ - t by omega]
    have hdg := dgt_lt (B := nB σ - 1) (by omega) mm (nB σ - t)
    have hbx := (bxd_lt (n := nB σ) (p := t - 1) (by omega) hdg).1
    refine lv_aload_n hx hb dL_next_10 rfl (lv_at hl 1 rfl) ?_
    refine lv_iload_n hx hb dL_next_11 rfl (lv_at hl 2 rfl) ?_
    refine lv_dup2_11 hx hb dL_next_12 rfl rfl ?_
    refine fs_iald E hP (k := 244) h_3 (by omega) (vp_in_nI (by omega) (by omega)) dL_next_13 ?_
    refine fs_vi (y := fx (t - 1)) (congrArg fx (nI_clamp (by omega))) ?_
    refine fs_vi (y := (nI (bxd (t - 1) (dgt (nB σ - 1) mm (nB σ - t))))) hwt ?_
    refine lv_aload_n hx hb dL_next_14 rfl (lv_at hl 1 rfl) ?_
    refine lv_iload_n hx hb dL_next_15 rfl (lv_at hl 2 rfl) ?_
    refine fs_iald E hP (k := 244) h_3 (by omega) (vp_in_nI (by omega) (by omega)) dL_next_16 ?_
    refine fs_vi (y := fx (t - 1)) (congrArg fx (nI_clamp (by omega))) ?_
    refine fs_vi (y := (nI (bxd (t - 1) (dgt (nB σ - 1) mm (nB σ - t))))) hwt ?_
    refine lv_iconst (v := (nI 1)) hx hb dL_next_17 (by decide) ?_
    refine lv_iadd hx hb dL_next_18 ?_
    refine fs_vi (y := nI (bxd (t - 1) (dgt (nB σ - 1) mm (nB σ - t)) + 1)) (nI_add _ _) ?_
    refine lv_iload_n hx hb dL_next_19 rfl (lv_at hl 2 rfl) ?_
    refine lv_icmp_ne (tgt := 27) hx hb dL_next_20 (by decide) (fun c_20 => ?_) (fun c_20 => ?_)
    · rw [nI_eq (by omega) (by omega)] at c_20
      refine lv_iconst (v := (nI 1)) hx hb dL_next_27 (by decide) ?_
      refine lv_iadd hx hb dL_next_28 ?_
      refine fs_vi (y := nI (bxd (t - 1) (dgt (nB σ - 1) mm (nB σ - t)) + 1)) (nI_add _ _) ?_
      refine fs_iast E hP hS (k := 244) h_3 (by omega) (vp_in_nI (by omega) (by omega)) dL_next_29 (fun ct_4 H locs q_5 hP hS => ?_)
      rw [nI_clamp (by omega)] at q_5
      have h_6 : ct_4 243 = .inl (fcI g, 3, .inl fq) := by rw [q_5]; exact (fu_ne (by omega)).trans h_2
      have h_7 : ct_4 244 = .inl (fcI g, 6, .inl (upd fx (t - 1) (nI (bxd (t - 1) (dgt (nB σ - 1) mm (nB σ - t)) + 1)))) := by rw [q_5]; exact fu_eq _ _ _
      refine lv_aload_n hx hb dL_next_30 rfl (lv_at hl 1 rfl) ?_
      refine lv_iload_n hx hb dL_next_31 rfl (lv_at hl 2 rfl) ?_
      refine fs_iald E hP (k := 244) h_7 (by omega) (vp_in_nI (by omega) (by omega)) dL_next_32 ?_
      refine fs_vi (y := (upd fx (t - 1) (nI (bxd (t - 1) (dgt (nB σ - 1) mm (nB σ - t)) + 1))) (t - 1)) (congrArg (upd fx (t - 1) (nI (bxd (t - 1) (dgt (nB σ - 1) mm (nB σ - t)) + 1))) (nI_clamp (by omega))) ?_
      refine fs_vi (y := (nI ((bxd (t - 1) (dgt (nB σ - 1) mm (nB σ - t))) + 1))) (upd_eq _ _ _) ?_
      refine lv_aload_n hx hb dL_next_33 rfl (lv_at hl 0 rfl) ?_
      refine lv_iconst (v := (nI 0)) hx hb dL_next_34 (by decide) ?_
      refine fs_iald E hP (k := 243) h_6 (by omega) (vp_in_nI (by omega) (by omega)) dL_next_35 ?_
      refine fs_vi (y := fq 0) (congrArg fq (nI_clamp (by omega))) ?_
      refine fs_vi (y := (nI (nB σ))) hQ.1 ?_
      refine lv_icmp_ge (tgt := 41) hx hb dL_next_36 (by decide) (fun c_36 => ?_) (fun c_36 => ?_)
      · rw [nI_leI (by omega) (by omega)] at c_36
        refine lv_aload_n hx hb dL_next_41 rfl (lv_at hl 1 rfl) ?_
        refine lv_iload_n hx hb dL_next_42 rfl (lv_at hl 2 rfl) ?_
        refine lv_iload_n hx hb dL_next_43 rfl (lv_at hl 2 rfl) ?_
        refine lv_if_ne (tgt := 51) hx hb dL_next_44 (by decide) (fun c_44 => ?_) (fun c_44 => ?_)
        · rw [fz_eqN (by omega)] at c_44
          refine lv_iconst (v := (nI 0)) hx hb dL_next_51 (by decide) ?_
          refine fs_vi (y := nI (bxd (t - 1) 0)) (congrArg nI (by rw [bxd_0, if_neg c_44])) ?_
          refine fs_iast E hP hS (k := 244) h_7 (by omega) (vp_in_nI (by omega) (by omega)) dL_next_52 (fun ct_8 H locs q_9 hP hS => ?_)
          rw [nI_clamp (by omega)] at q_9
          have h_10 : ct_8 243 = .inl (fcI g, 3, .inl fq) := by rw [q_9]; exact (fu_ne (by omega)).trans h_6
          have h_11 : ct_8 244 = .inl (fcI g, 6, .inl (upd (upd fx (t - 1) (nI (bxd (t - 1) (dgt (nB σ - 1) mm (nB σ - t)) + 1))) (t - 1) (nI (bxd (t - 1) 0)))) := by rw [q_9]; exact fu_eq _ _ _
          refine lv_iinc (v := (mI (t - 1))) (lv' := [(2, .int (mI (t - 1))), (0, .ref (fa g 243)), (1, .ref (fa g 244))]) hx hb dL_next_53 hl (k := 2) rfl (by rw [← mI_p (by omega)]; exact mI_d (by omega) (by omega)) (by decide) rfl (fun ls hl => ?_)
          refine lv_goto (tgt := 6) hx hb dL_next_56 (by decide) ?_
          have hnx : ((bxd (t - 1) (dgt (nB σ - 1) mm (nB σ - t))) + 1) = if (bxd (t - 1) (dgt (nB σ - 1) mm (nB σ - t))) + 1 = t - 1 then (bxd (t - 1) (dgt (nB σ - 1) mm (nB σ - t))) + 2 else (bxd (t - 1) (dgt (nB σ - 1) mm (nB σ - t))) + 1 := by split <;> omega
          have hdl : ¬ dgt (nB σ - 1) mm (nB σ - t) + 1 < nB σ - 1 := fun hno => by
            have h7 := bxd_next (n := nB σ) (p := t - 1) (by omega) hno
            have h8 := bxd_more (n := nB σ) (p := t - 1) (by omega) hno
            omega
          have hcy := dgt_carry (B := nB σ - 1) (by omega) hI.2.1 hdl
          exact ih (t - 1) _ _ ls _ (by omega) ⟨lv_sub hl [1, 2, 0] rfl, ⟨_, by rw [q_9, q_5, hct, fu_fu, fu_fu], by omega, by rw [show nB σ - (t - 1) = nB σ - t + 1 by omega]; exact hcy, fun p9 hp9 => by
              by_cases z : p9 = t - 1
              · subst z; rw [upd_eq, if_neg (by omega)]
              · rw [upd_ne z, upd_ne z, hI.2.2 _ hp9]
                by_cases z1 : p9 < t
                · rw [if_pos z1, if_pos (by omega)]
                · rw [if_neg z1, if_neg (show ¬ p9 < t - 1 by omega)]⟩⟩ hP hS
        · rw [fz_eqN (by omega)] at c_44
          refine lv_iconst (v := (nI 1)) hx hb dL_next_47 (by decide) ?_
          refine lv_goto (tgt := 52) hx hb dL_next_48 (by decide) ?_
          refine fs_vi (y := nI (bxd (t - 1) 0)) (congrArg nI (by rw [bxd_0, if_pos c_44])) ?_
          refine fs_iast E hP hS (k := 244) h_7 (by omega) (vp_in_nI (by omega) (by omega)) dL_next_52 (fun ct_12 H locs q_13 hP hS => ?_)
          rw [nI_clamp (by omega)] at q_13
          have h_14 : ct_12 243 = .inl (fcI g, 3, .inl fq) := by rw [q_13]; exact (fu_ne (by omega)).trans h_6
          have h_15 : ct_12 244 = .inl (fcI g, 6, .inl (upd (upd fx (t - 1) (nI (bxd (t - 1) (dgt (nB σ - 1) mm (nB σ - t)) + 1))) (t - 1) (nI (bxd (t - 1) 0)))) := by rw [q_13]; exact fu_eq _ _ _
          refine lv_iinc (v := (mI (t - 1))) (lv' := [(2, .int (mI (t - 1))), (0, .ref (fa g 243)), (1, .ref (fa g 244))]) hx hb dL_next_53 hl (k := 2) rfl (by rw [← mI_p (by omega)]; exact mI_d (by omega) (by omega)) (by decide) rfl (fun ls hl => ?_)
          refine lv_goto (tgt := 6) hx hb dL_next_56 (by decide) ?_
          have hnx : ((bxd (t - 1) (dgt (nB σ - 1) mm (nB σ - t))) + 1) = if (bxd (t - 1) (dgt (nB σ - 1) mm (nB σ - t))) + 1 = t - 1 then (bxd (t - 1) (dgt (nB σ - 1) mm (nB σ - t))) + 2 else (bxd (t - 1) (dgt (nB σ - 1) mm (nB σ - t))) + 1 := by split <;> omega
          have hdl : ¬ dgt (nB σ - 1) mm (nB σ - t) + 1 < nB σ - 1 := fun hno => by
            have h7 := bxd_next (n := nB σ) (p := t - 1) (by omega) hno
            have h8 := bxd_more (n := nB σ) (p := t - 1) (by omega) hno
            omega
          have hcy := dgt_carry (B := nB σ - 1) (by omega) hI.2.1 hdl
          exact ih (t - 1) _ _ ls _ (by omega) ⟨lv_sub hl [1, 2, 0] rfl, ⟨_, by rw [q_13, q_5, hct, fu_fu, fu_fu], by omega, by rw [show nB σ - (t - 1) = nB σ - t + 1 by omega]; exact hcy, fun p9 hp9 => by
              by_cases z : p9 = t - 1
              · subst z; rw [upd_eq, if_neg (by omega)]
              · rw [upd_ne z, upd_ne z, hI.2.2 _ hp9]
                by_cases z1 : p9 < t
                · rw [if_pos z1, if_pos (by omega)]
                · rw [if_neg z1, if_neg (show ¬ p9 < t - 1 by omega)]⟩⟩ hP hS
      · rw [nI_leI (by omega) (by omega)] at c_36
        refine lv_iconst (v := (nI 1)) hx hb dL_next_39 (by decide) ?_
        have hnx : ((bxd (t - 1) (dgt (nB σ - 1) mm (nB σ - t))) + 1) = if (bxd (t - 1) (dgt (nB σ - 1) mm (nB σ - t))) + 1 = t - 1 then (bxd (t - 1) (dgt (nB σ - 1) mm (nB σ - t))) + 2 else (bxd (t - 1) (dgt (nB σ - 1) mm (nB σ - t))) + 1 := by split <;> omega
        have hdl : dgt (nB σ - 1) mm (nB σ - t) + 1 < nB σ - 1 := Decidable.byContradiction (fun hno => by have h8 := bxd_last (n := nB σ) (p := t - 1) (by omega) hdg hno; omega)
        have hnx2 : ((bxd (t - 1) (dgt (nB σ - 1) mm (nB σ - t))) + 1) = bxd (t - 1) (dgt (nB σ - 1) mm (nB σ - t) + 1) := hnx.trans (bxd_next (n := nB σ) (by omega) hdl)
        have hrm : mm + 1 < mM σ := dgt_room (B := nB σ - 1) (by omega) (show nB σ - t < nB σ by omega) hm hI.2.1 hdl
        obtain ⟨s1, s2, s3⟩ := dgt_step (B := nB σ - 1) (by omega) hI.2.1 hdl
        refine fs_zret E hr rfl hlk hP hS dL_next_40 ?_
        refine ⟨_, by rw [q_5, hct, fu_fu], Or.inl ⟨hrm, rfl, fun p9 hp9 => ?_⟩⟩
        rcases Decidable.em (p9 = t - 1) with z | z
        · subst z
          rw [upd_eq, hnx2]
          unfold wd; rw [show nB σ - 1 - (t - 1) = nB σ - t by omega, s2]
        · rw [upd_ne z, hI.2.2 _ hp9]
          by_cases z1 : p9 < t
          · rw [if_pos z1]
            unfold wd; rw [s3 _ (by omega)]
          · rw [if_neg z1]
            unfold wd; rw [s1 _ (by omega)]
    · rw [nI_eq (by omega) (by omega)] at c_20
      refine lv_iconst (v := (nI 2)) hx hb dL_next_23 (by decide) ?_
      refine lv_goto (tgt := 28) hx hb dL_next_24 (by decide) ?_
      refine lv_iadd hx hb dL_next_28 ?_
      refine fs_vi (y := nI (bxd (t - 1) (dgt (nB σ - 1) mm (nB σ - t)) + 2)) (nI_add _ _) ?_
      refine fs_iast E hP hS (k := 244) h_3 (by omega) (vp_in_nI (by omega) (by omega)) dL_next_29 (fun ct_16 H locs q_17 hP hS => ?_)
      rw [nI_clamp (by omega)] at q_17
      have h_18 : ct_16 243 = .inl (fcI g, 3, .inl fq) := by rw [q_17]; exact (fu_ne (by omega)).trans h_2
      have h_19 : ct_16 244 = .inl (fcI g, 6, .inl (upd fx (t - 1) (nI (bxd (t - 1) (dgt (nB σ - 1) mm (nB σ - t)) + 2)))) := by rw [q_17]; exact fu_eq _ _ _
      refine lv_aload_n hx hb dL_next_30 rfl (lv_at hl 1 rfl) ?_
      refine lv_iload_n hx hb dL_next_31 rfl (lv_at hl 2 rfl) ?_
      refine fs_iald E hP (k := 244) h_19 (by omega) (vp_in_nI (by omega) (by omega)) dL_next_32 ?_
      refine fs_vi (y := (upd fx (t - 1) (nI (bxd (t - 1) (dgt (nB σ - 1) mm (nB σ - t)) + 2))) (t - 1)) (congrArg (upd fx (t - 1) (nI (bxd (t - 1) (dgt (nB σ - 1) mm (nB σ - t)) + 2))) (nI_clamp (by omega))) ?_
      refine fs_vi (y := (nI ((bxd (t - 1) (dgt (nB σ - 1) mm (nB σ - t))) + 2))) (upd_eq _ _ _) ?_
      refine lv_aload_n hx hb dL_next_33 rfl (lv_at hl 0 rfl) ?_
      refine lv_iconst (v := (nI 0)) hx hb dL_next_34 (by decide) ?_
      refine fs_iald E hP (k := 243) h_18 (by omega) (vp_in_nI (by omega) (by omega)) dL_next_35 ?_
      refine fs_vi (y := fq 0) (congrArg fq (nI_clamp (by omega))) ?_
      refine fs_vi (y := (nI (nB σ))) hQ.1 ?_
      refine lv_icmp_ge (tgt := 41) hx hb dL_next_36 (by decide) (fun c_36 => ?_) (fun c_36 => ?_)
      · rw [nI_leI (by omega) (by omega)] at c_36
        refine lv_aload_n hx hb dL_next_41 rfl (lv_at hl 1 rfl) ?_
        refine lv_iload_n hx hb dL_next_42 rfl (lv_at hl 2 rfl) ?_
        refine lv_iload_n hx hb dL_next_43 rfl (lv_at hl 2 rfl) ?_
        refine lv_if_ne (tgt := 51) hx hb dL_next_44 (by decide) (fun c_44 => ?_) (fun c_44 => ?_)
        · rw [fz_eqN (by omega)] at c_44
          refine lv_iconst (v := (nI 0)) hx hb dL_next_51 (by decide) ?_
          refine fs_vi (y := nI (bxd (t - 1) 0)) (congrArg nI (by rw [bxd_0, if_neg c_44])) ?_
          refine fs_iast E hP hS (k := 244) h_19 (by omega) (vp_in_nI (by omega) (by omega)) dL_next_52 (fun ct_20 H locs q_21 hP hS => ?_)
          rw [nI_clamp (by omega)] at q_21
          have h_22 : ct_20 243 = .inl (fcI g, 3, .inl fq) := by rw [q_21]; exact (fu_ne (by omega)).trans h_18
          have h_23 : ct_20 244 = .inl (fcI g, 6, .inl (upd (upd fx (t - 1) (nI (bxd (t - 1) (dgt (nB σ - 1) mm (nB σ - t)) + 2))) (t - 1) (nI (bxd (t - 1) 0)))) := by rw [q_21]; exact fu_eq _ _ _
          refine lv_iinc (v := (mI (t - 1))) (lv' := [(2, .int (mI (t - 1))), (0, .ref (fa g 243)), (1, .ref (fa g 244))]) hx hb dL_next_53 hl (k := 2) rfl (by rw [← mI_p (by omega)]; exact mI_d (by omega) (by omega)) (by decide) rfl (fun ls hl => ?_)
          refine lv_goto (tgt := 6) hx hb dL_next_56 (by decide) ?_
          have hnx : ((bxd (t - 1) (dgt (nB σ - 1) mm (nB σ - t))) + 2) = if (bxd (t - 1) (dgt (nB σ - 1) mm (nB σ - t))) + 1 = t - 1 then (bxd (t - 1) (dgt (nB σ - 1) mm (nB σ - t))) + 2 else (bxd (t - 1) (dgt (nB σ - 1) mm (nB σ - t))) + 1 := by split <;> omega
          have hdl : ¬ dgt (nB σ - 1) mm (nB σ - t) + 1 < nB σ - 1 := fun hno => by
            have h7 := bxd_next (n := nB σ) (p := t - 1) (by omega) hno
            have h8 := bxd_more (n := nB σ) (p := t - 1) (by omega) hno
            omega
          have hcy := dgt_carry (B := nB σ - 1) (by omega) hI.2.1 hdl
          exact ih (t - 1) _ _ ls _ (by omega) ⟨lv_sub hl [1, 2, 0] rfl, ⟨_, by rw [q_21, q_17, hct, fu_fu, fu_fu], by omega, by rw [show nB σ - (t - 1) = nB σ - t + 1 by omega]; exact hcy, fun p9 hp9 => by
              by_cases z : p9 = t - 1
              · subst z; rw [upd_eq, if_neg (by omega)]
              · rw [upd_ne z, upd_ne z, hI.2.2 _ hp9]
                by_cases z1 : p9 < t
                · rw [if_pos z1, if_pos (by omega)]
                · rw [if_neg z1, if_neg (show ¬ p9 < t - 1 by omega)]⟩⟩ hP hS
        · rw [fz_eqN (by omega)] at c_44
          refine lv_iconst (v := (nI 1)) hx hb dL_next_47 (by decide) ?_
          refine lv_goto (tgt := 52) hx hb dL_next_48 (by decide) ?_
          refine fs_vi (y := nI (bxd (t - 1) 0)) (congrArg nI (by rw [bxd_0, if_pos c_44])) ?_
          refine fs_iast E hP hS (k := 244) h_19 (by omega) (vp_in_nI (by omega) (by omega)) dL_next_52 (fun ct_24 H locs q_25 hP hS => ?_)
          rw [nI_clamp (by omega)] at q_25
          have h_26 : ct_24 243 = .inl (fcI g, 3, .inl fq) := by rw [q_25]; exact (fu_ne (by omega)).trans h_18
          have h_27 : ct_24 244 = .inl (fcI g, 6, .inl (upd (upd fx (t - 1) (nI (bxd (t - 1) (dgt (nB σ - 1) mm (nB σ - t)) + 2))) (t - 1) (nI (bxd (t - 1) 0)))) := by rw [q_25]; exact fu_eq _ _ _
          refine lv_iinc (v := (mI (t - 1))) (lv' := [(2, .int (mI (t - 1))), (0, .ref (fa g 243)), (1, .ref (fa g 244))]) hx hb dL_next_53 hl (k := 2) rfl (by rw [← mI_p (by omega)]; exact mI_d (by omega) (by omega)) (by decide) rfl (fun ls hl => ?_)
          refine lv_goto (tgt := 6) hx hb dL_next_56 (by decide) ?_
          have hnx : ((bxd (t - 1) (dgt (nB σ - 1) mm (nB σ - t))) + 2) = if (bxd (t - 1) (dgt (nB σ - 1) mm (nB σ - t))) + 1 = t - 1 then (bxd (t - 1) (dgt (nB σ - 1) mm (nB σ - t))) + 2 else (bxd (t - 1) (dgt (nB σ - 1) mm (nB σ - t))) + 1 := by split <;> omega
          have hdl : ¬ dgt (nB σ - 1) mm (nB σ - t) + 1 < nB σ - 1 := fun hno => by
            have h7 := bxd_next (n := nB σ) (p := t - 1) (by omega) hno
            have h8 := bxd_more (n := nB σ) (p := t - 1) (by omega) hno
            omega
          have hcy := dgt_carry (B := nB σ - 1) (by omega) hI.2.1 hdl
          exact ih (t - 1) _ _ ls _ (by omega) ⟨lv_sub hl [1, 2, 0] rfl, ⟨_, by rw [q_25, q_17, hct, fu_fu, fu_fu], by omega, by rw [show nB σ - (t - 1) = nB σ - t + 1 by omega]; exact hcy, fun p9 hp9 => by
              by_cases z : p9 = t - 1
              · subst z; rw [upd_eq, if_neg (by omega)]
              · rw [upd_ne z, upd_ne z, hI.2.2 _ hp9]
                by_cases z1 : p9 < t
                · rw [if_pos z1, if_pos (by omega)]
                · rw [if_neg z1, if_neg (show ¬ p9 < t - 1 by omega)]⟩⟩ hP hS
      · rw [nI_leI (by omega) (by omega)] at c_36
        refine lv_iconst (v := (nI 1)) hx hb dL_next_39 (by decide) ?_
        have hnx : ((bxd (t - 1) (dgt (nB σ - 1) mm (nB σ - t))) + 2) = if (bxd (t - 1) (dgt (nB σ - 1) mm (nB σ - t))) + 1 = t - 1 then (bxd (t - 1) (dgt (nB σ - 1) mm (nB σ - t))) + 2 else (bxd (t - 1) (dgt (nB σ - 1) mm (nB σ - t))) + 1 := by split <;> omega
        have hdl : dgt (nB σ - 1) mm (nB σ - t) + 1 < nB σ - 1 := Decidable.byContradiction (fun hno => by have h8 := bxd_last (n := nB σ) (p := t - 1) (by omega) hdg hno; omega)
        have hnx2 : ((bxd (t - 1) (dgt (nB σ - 1) mm (nB σ - t))) + 2) = bxd (t - 1) (dgt (nB σ - 1) mm (nB σ - t) + 1) := hnx.trans (bxd_next (n := nB σ) (by omega) hdl)
        have hrm : mm + 1 < mM σ := dgt_room (B := nB σ - 1) (by omega) (show nB σ - t < nB σ by omega) hm hI.2.1 hdl
        obtain ⟨s1, s2, s3⟩ := dgt_step (B := nB σ - 1) (by omega) hI.2.1 hdl
        refine fs_zret E hr rfl hlk hP hS dL_next_40 ?_
        refine ⟨_, by rw [q_17, hct, fu_fu], Or.inl ⟨hrm, rfl, fun p9 hp9 => ?_⟩⟩
        rcases Decidable.em (p9 = t - 1) with z | z
        · subst z
          rw [upd_eq, hnx2]
          unfold wd; rw [show nB σ - 1 - (t - 1) = nB σ - t by omega, s2]
        · rw [upd_ne z, hI.2.2 _ hp9]
          by_cases z1 : p9 < t
          · rw [if_pos z1]
            unfold wd; rw [s3 _ (by omega)]
          · rw [if_neg z1]
            unfold wd; rw [s1 _ (by omega)]
