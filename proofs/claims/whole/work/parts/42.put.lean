/-! the characters that a number holds -/
def rs (v : Nat) : Nat → Nat
  | 0 => v
  | i + 1 => rs v i / 256
def byv (v i : Nat) : Nat := rs v i % 256
theorem rs_le (v i : Nat) : rs v i ≤ v := by
  induction i with
  | zero => exact Nat.le_refl _
  | succ i ih => exact Nat.le_trans (Nat.div_le_self _ _) ih
theorem rs_eq (v i : Nat) : rs v i = v / 2 ^ (8 * i) := by
  induction i with
  | zero => rw [Nat.mul_zero, Nat.pow_zero, Nat.div_one]; rfl
  | succ i ih =>
    show rs v i / 256 = _
    rw [ih, Nat.div_div_eq_div_mul, show 8 * (i + 1) = 8 * i + 8 by omega, Nat.pow_add]
theorem rs_and {v i : Nat} (hv : v < 2 ^ 64) : lN (rs v i) &&& 255 = lN (byv v i) := wb_mask (k := 8) (Nat.lt_of_le_of_lt (rs_le v i) hv) (by decide)
theorem rs_shr {v i : Nat} (hv : v < 2 ^ 64) : ((lN (rs v i)).toUInt64 >>> ((nI 8).toInt64.toUInt64 &&& Int64.toUInt64 63)).toInt64 = lN (rs v (i + 1)) := wb_shr (k := 8) (Nat.lt_of_le_of_lt (rs_le v i) hv) (by decide)
theorem rs_shk {v i : Nat} (hv : v < 2 ^ 64) (hi : i < 8) : ((lN v).toUInt64 >>> ((nI (8 * i)).toInt64.toUInt64 &&& Int64.toUInt64 63)).toInt64 = lN (rs v i) := by
  rw [wb_shr hv (show 8 * i < 64 by omega), rs_eq]
theorem byv_lt (v i : Nat) : byv v i < 256 := Nat.mod_lt _ (by omega)
theorem lN_0 {a : Nat} (h : a < 2 ^ 64) : lN a = 0 ↔ a = 0 := by
  constructor
  · intro z
    have e := congrArg (fun x => x.toBitVec.toNat) z
    have e2 : (lN a).toBitVec.toNat = a := wb_tn h
    have e3 : (0 : Int64).toBitVec.toNat = 0 := rfl
    exact e2.symm.trans (e.trans e3)
  · intro z; rw [z]; rfl
theorem lgz {a : Nat} (h : a < 2 ^ 64) : lg_cmp (lN a) 0 = 0 ↔ a = 0 := by
  rw [← lN_0 h]
  unfold lg_cmp
  by_cases z : lN a = 0
  · rw [if_neg (by rw [z]; decide), if_pos z]; exact ⟨fun _ => z, fun _ => rfl⟩
  · rw [if_neg z]
    by_cases y : lN a > 0
    · rw [if_pos y]; exact ⟨fun q => absurd q (by decide), fun q => absurd q z⟩
    · rw [if_neg y]; exact ⟨fun q => absurd q (by decide), fun q => absurd q z⟩
theorem lg33 {a : Nat} (h : a < 2 ^ 31) : lg_cmp (lN a) 33 < 0 ↔ a < 33 := by rw [lg_cmp_lt]; exact lN_lt (b := 33) h (by decide)
theorem lg126 {a : Nat} (h : a < 2 ^ 31) : lg_cmp (lN a) 126 ≤ 0 ↔ a ≤ 126 := by rw [lg_cmp_le]; exact lN_le (b := 126) h (by decide)
abbrev TL (v i : Nat) : Prop := (∀ j, j < i → 33 ≤ byv v j ∧ byv v j ≤ 126) ∧ rs v i = 0
def tlm (v : Nat) : Nat → Nat
  | 0 => 0
  | i + 1 => if TL v (i + 1) then i + 1 else tlm v i
def tln (v : Nat) : Nat := tlm v 8
theorem rs_zero {v i j : Nat} (h : rs v i = 0) (hj : i ≤ j) : rs v j = 0 := by
  induction j with
  | zero =>
    have e : i = 0 := by omega
    subst e; exact h
  | succ j ih =>
    by_cases z : i = j + 1
    · rw [← z]; exact h
    · show rs v j / 256 = 0
      rw [ih (by omega)]
theorem TL_one {v i j : Nat} (h1 : TL v i) (h2 : TL v j) : i = j := by
  rcases Nat.lt_trichotomy i j with h | h | h
  · have := (h2.1 i h).1
    unfold byv at this; rw [h1.2] at this; omega
  · exact h
  · have := (h1.1 j h).1
    unfold byv at this; rw [h2.2] at this; omega
theorem tlm_hit {v i : Nat} (h : TL v i) : ∀ m, i ≤ m → tlm v m = i := by
  intro m
  induction m with
  | zero => intro hm; exact (Nat.le_zero.mp hm).symm
  | succ m ih =>
    intro hm
    unfold tlm
    by_cases z : TL v (m + 1)
    · rw [if_pos z]; exact TL_one z h
    · rw [if_neg z]; exact ih (by rcases Nat.lt_or_ge m i with q | q; · exact absurd (by rw [show m + 1 = i by omega]; exact h) z
                                  · exact q)
theorem tln_hit {v i : Nat} (hi : i ≤ 8) (h : TL v i) : tln v = i := tlm_hit h 8 hi
theorem tlm_0 {v : Nat} : ∀ m, (∀ i, 1 ≤ i → i ≤ m → ¬ TL v i) → tlm v m = 0 := by
  intro m
  induction m with
  | zero => intro _; rfl
  | succ m ih => intro h; unfold tlm; rw [if_neg (h _ (by omega) (by omega))]; exact ih (fun i h1 h2 => h i h1 (by omega))
theorem tln_bad {v i : Nat} (h0 : ¬ byv v i = 0) (hb : ¬ (33 ≤ byv v i ∧ byv v i ≤ 126)) : tln v = 0 := by
  refine tlm_0 8 (fun j h1 h2 z => ?_)
  rcases Nat.lt_or_ge i j with q | q
  · exact hb (z.1 i q)
  · have := rs_zero z.2 q
    exact h0 (by unfold byv; rw [this])
theorem tln_rest {v i : Nat} (h : 8 ≤ i ∨ byv v i = 0) (hr : ¬ rs v i = 0) : tln v = 0 := by
  refine tlm_0 8 (fun j h1 h2 z => ?_)
  rcases Nat.lt_or_ge i j with q | q
  · have := (z.1 i q).1; omega
  · exact hr (rs_zero z.2 q)
theorem tlm_le (v : Nat) : ∀ m, tlm v m ≤ m ∧ (0 < tlm v m → TL v (tlm v m)) := by
  intro m
  induction m with
  | zero => exact ⟨Nat.le_refl _, fun h => absurd h (by unfold tlm; omega)⟩
  | succ m ih =>
    unfold tlm
    by_cases z : TL v (m + 1)
    · rw [if_pos z]; exact ⟨Nat.le_refl _, fun _ => z⟩
    · rw [if_neg z]; exact ⟨by omega, ih.2⟩
theorem tln_le (v : Nat) : tln v ≤ 8 := (tlm_le v 8).1
theorem tln_ok {v : Nat} (h : 0 < tln v) : TL v (tln v) := (tlm_le v 8).2 h
theorem nsub_lt {q : Nat} (h : q < 1000) : nI q - nI 1 < 0 ↔ q = 0 := by
  by_cases z : q = 0
  · subst z; exact ⟨fun _ => rfl, fun _ => by decide⟩
  · rw [pk_sub (by omega), fz_ltN (by omega)]; omega
theorem nsub1 (a : Int32) : a + (-1) = a - nI 1 := by rw [Int32.sub_eq_add_neg]; rfl
theorem char_id : ∀ n, n < 256 → ((nI n).toUInt32 % 65536).toInt32 = nI n := by decide +kernel
/-- a pad's text with a number's characters behind it -/
def ptT (t : Nat → Nat) (len v : Nat) : Nat → Nat := fun i => if i < len then t i else byv v (tln v - 1 - (i - len))
theorem PadAt.congr {g : fG} {ct : Nat → va_E} {d len : Nat} {t t1 : Nat → Nat} (H : PadAt g ct d t len) (h : ∀ i, i < len → t1 i = t i) : PadAt g ct d t1 len := by
  obtain ⟨a, ⟨f, b, c⟩, e, w⟩ := H
  exact ⟨a, ⟨f, b, fun i hi => by rw [h i hi]; exact c i hi⟩, e, fun i hi => by rw [h i hi]; exact w i hi⟩

set_option maxRecDepth 100000 in
set_option maxHeartbeats 4000000 in
theorem c_X7_lengthOfText (l : Launch) (g : fG) (N : Nat) (ct : Nat → va_E) (v : Nat) (hv : v < 2 ^ 64) : Met l yX7_lengthOfText (wsU yX7_lengthOfText cX7_lengthOfText 7 (some .int)) rX7_lengthOfText (fPre g N ct [.long (lN v)]) (fQpi (fun r => r = nI (tln v))) 0 0 (fB g) := by
  refine fs_start (own := RX7) (lv0 := [(0, .long (lN v))]) (by decide) rfl (Nat.le_of_ble_eq_true rfl) rfl ?_
  intro p e s m args below meth c ls E hr hlk hnm hP hl hS
  have hx := E.1.1
  have hb := E.1.2.1
  refine lv_lload_n hx hb dX7_lengthOfText_0 rfl (lv_at hl 0 rfl) ?_
  refine lv_lstore_n (lv' := [(2, .long (lN v)), (0, .long (lN v))]) hx hb dX7_lengthOfText_1 rfl hl (by decide) rfl (fun ls hl => ?_)
  refine lv_iconst (v := (nI 0)) hx hb dX7_lengthOfText_2 (by decide) ?_
  refine lv_istore (lv' := [(4, .int (nI 0)), (2, .long (lN v)), (0, .long (lN v))]) hx hb dX7_lengthOfText_3 hl (by decide) rfl (fun ls hl => ?_)
  refine fs_indP (g := g) (St := Nat) (fun (i : Nat) (ls : Array Slot) => lv_has ls 7 [(0, .long (lN v)), (2, .long (lN (rs v i))), (4, .int (nI i))] ∧ i ≤ 8 ∧ ∀ j, j < i → 33 ≤ byv v j ∧ byv v j ≤ 126) (fun (i : Nat) => 8 - i) ?_ 0 ls _ ⟨lv_sub hl [2, 1, 0] rfl, Nat.zero_le _, fun j hj => absurd hj (by omega)⟩ hS
  clear hl hS
  intro st ls locs hI hS ih
  obtain ⟨i, rfl⟩ : ∃ z, z = st := ⟨_, rfl⟩
  obtain ⟨hl, hI⟩ := hI
  have hI1 := hI.1
  have hby := byv_lt v i
  have hrl := rs_le v i
  refine lv_iload hx hb dX7_lengthOfText_5 (lv_at hl 2 rfl) ?_
  refine lv_bipush (v := (nI 8)) hx hb dX7_lengthOfText_7 (by decide) ?_
  refine lv_icmp_ge (tgt := 60) hx hb dX7_lengthOfText_9 (by decide) (fun c_9 => ?_) (fun c_9 => ?_)
  · rw [nI_leI (by omega) (by omega)] at c_9
    refine lv_lload_n hx hb dX7_lengthOfText_60 rfl (lv_at hl 1 rfl) ?_
    refine lv_lconst (v := 0) hx hb dX7_lengthOfText_61 (by decide) ?_
    refine W.lcmp hx hb dX7_lengthOfText_62 ?_
    refine lv_if_ne (tgt := 71) hx hb dX7_lengthOfText_63 (by decide) (fun c_63 => ?_) (fun c_63 => ?_)
    · rw [lgz (by omega)] at c_63
      refine lv_iconst (v := (nI 0)) hx hb dX7_lengthOfText_71 (by decide) ?_
      refine fs_piret E hr hlk hS dX7_lengthOfText_72 ?_
      rw [tln_rest (i := i) (Or.inl (by omega)) c_63]
    · rw [lgz (by omega)] at c_63
      refine lv_iload hx hb dX7_lengthOfText_66 (lv_at hl 2 rfl) ?_
      refine lv_goto (tgt := 72) hx hb dX7_lengthOfText_68 (by decide) ?_
      refine fs_piret E hr hlk hS dX7_lengthOfText_72 ?_
      exact (congrArg nI (tln_hit hI1 ⟨hI.2, c_63⟩)).symm
  · rw [nI_leI (by omega) (by omega)] at c_9
    refine lv_lload_n hx hb dX7_lengthOfText_12 rfl (lv_at hl 1 rfl) ?_
    refine lv_ldc2 (v := 255) hx hb E.1.2.2.2.1 (E.1.2.2.2.2 _ (wm wl_33 (i := 14) rfl)) dX7_lengthOfText_13 ?_
    refine lv_land hx hb dX7_lengthOfText_16 ?_
    refine fs_vv (y := .long (lN (byv v i))) (congrArg Value.long (rs_and hv)) ?_
    refine lv_lconst (v := 0) hx hb dX7_lengthOfText_17 (by decide) ?_
    refine W.lcmp hx hb dX7_lengthOfText_18 ?_
    refine lv_if_eq (tgt := 60) hx hb dX7_lengthOfText_19 (by decide) (fun c_19 => ?_) (fun c_19 => ?_)
    · rw [lgz (by omega)] at c_19
      refine lv_lload_n hx hb dX7_lengthOfText_60 rfl (lv_at hl 1 rfl) ?_
      refine lv_lconst (v := 0) hx hb dX7_lengthOfText_61 (by decide) ?_
      refine W.lcmp hx hb dX7_lengthOfText_62 ?_
      refine lv_if_ne (tgt := 71) hx hb dX7_lengthOfText_63 (by decide) (fun c_63 => ?_) (fun c_63 => ?_)
      · rw [lgz (by omega)] at c_63
        refine lv_iconst (v := (nI 0)) hx hb dX7_lengthOfText_71 (by decide) ?_
        refine fs_piret E hr hlk hS dX7_lengthOfText_72 ?_
        rw [tln_rest (i := i) (Or.inr c_19) c_63]
      · rw [lgz (by omega)] at c_63
        refine lv_iload hx hb dX7_lengthOfText_66 (lv_at hl 2 rfl) ?_
        refine lv_goto (tgt := 72) hx hb dX7_lengthOfText_68 (by decide) ?_
        refine fs_piret E hr hlk hS dX7_lengthOfText_72 ?_
        exact (congrArg nI (tln_hit hI1 ⟨hI.2, c_63⟩)).symm
    · rw [lgz (by omega)] at c_19
      refine lv_lload_n hx hb dX7_lengthOfText_22 rfl (lv_at hl 1 rfl) ?_
      refine lv_ldc2 (v := 255) hx hb E.1.2.2.2.1 (E.1.2.2.2.2 _ (wm wl_33 (i := 14) rfl)) dX7_lengthOfText_23 ?_
      refine lv_land hx hb dX7_lengthOfText_26 ?_
      refine fs_vv (y := .long (lN (byv v i))) (congrArg Value.long (rs_and hv)) ?_
      refine lv_lstore (lv' := [(5, .long (lN (byv v i))), (0, .long (lN v)), (2, .long (lN (rs v i))), (4, .int (nI i))]) hx hb dX7_lengthOfText_27 hl (by decide) rfl (fun ls hl => ?_)
      refine lv_lload hx hb dX7_lengthOfText_29 (lv_at hl 0 rfl) ?_
      refine lv_ldc2 (v := 33) hx hb E.1.2.2.2.1 (E.1.2.2.2.2 _ (wm wl_33 (i := 18) rfl)) dX7_lengthOfText_31 ?_
      refine W.lcmp hx hb dX7_lengthOfText_34 ?_
      refine lv_if_lt (tgt := 47) hx hb dX7_lengthOfText_35 (by decide) (fun c_35 => ?_) (fun c_35 => ?_)
      · rw [lg33 (by omega)] at c_35
        refine lv_iconst (v := (nI 0)) hx hb dX7_lengthOfText_47 (by decide) ?_
        refine fs_piret E hr hlk hS dX7_lengthOfText_48 ?_
        rw [tln_bad c_19 (by omega)]
      · rw [lg33 (by omega)] at c_35
        refine lv_lload hx hb dX7_lengthOfText_38 (lv_at hl 0 rfl) ?_
        refine lv_ldc2 (v := 126) hx hb E.1.2.2.2.1 (E.1.2.2.2.2 _ (wm wl_33 (i := 19) rfl)) dX7_lengthOfText_40 ?_
        refine W.lcmp hx hb dX7_lengthOfText_43 ?_
        refine lv_if_le (tgt := 49) hx hb dX7_lengthOfText_44 (by decide) (fun c_44 => ?_) (fun c_44 => ?_)
        · rw [lg126 (by omega)] at c_44
          refine lv_lload_n hx hb dX7_lengthOfText_49 rfl (lv_at hl 2 rfl) ?_
          refine lv_bipush (v := (nI 8)) hx hb dX7_lengthOfText_50 (by decide) ?_
          refine lv_lushr (v := (lN (rs v (i + 1)))) hx hb dX7_lengthOfText_52 (rs_shr hv) ?_
          refine lv_lstore_n (lv' := [(2, .long (lN (rs v (i + 1)))), (5, .long (lN (byv v i))), (0, .long (lN v)), (4, .int (nI i))]) hx hb dX7_lengthOfText_53 rfl hl (by decide) rfl (fun ls hl => ?_)
          refine lv_iinc (v := (nI (i + 1))) (lv' := [(4, .int (nI (i + 1))), (2, .long (lN (rs v (i + 1)))), (5, .long (lN (byv v i))), (0, .long (lN v))]) hx hb dX7_lengthOfText_54 hl (k := 3) rfl (nI_1 _) (by decide) rfl (fun ls hl => ?_)
          refine lv_goto (tgt := 5) hx hb dX7_lengthOfText_57 (by decide) ?_
          exact ih (i + 1) ls _ (by (try dsimp only); omega) ⟨lv_sub hl [3, 1, 0] rfl, by omega, fun j hj => (Nat.lt_or_ge j i).elim (fun z => hI.2 j z) (fun z => by rw [show j = i by omega]; omega)⟩ hS
        · rw [lg126 (by omega)] at c_44
          refine lv_iconst (v := (nI 0)) hx hb dX7_lengthOfText_47 (by decide) ?_
          refine fs_piret E hr hlk hS dX7_lengthOfText_48 ?_
          rw [tln_bad c_19 (by omega)]

set_option maxRecDepth 100000 in
set_option maxHeartbeats 4000000 in
theorem c_X7_put (l : Launch) (g : fG) (N : Nat) (ct : Nat → va_E) (σ : Nat → Int32) (k : Nat) (hs : Nat → Nat → Int32) (u1 : Bool) (s1 : Nat → Int32) (u2 : Bool) (s2 : Nat → Int32) (t : Nat → Nat) (len : Nat) (hN : 239 ≤ N) (hO : OGAt g ct σ k hs u1 s1 u2 s2 t len) (v : Nat) (hv : v < 2 ^ 64) : Met l yX7_put (wsU yX7_put cX7_put 5 (some .int)) rX7_put (fPre g N ct [.ref (fa g 0), .long (lN v)]) (fQi g N (fun r ct1 => r = (if tln v = 0 then -2 else if len + tln v ≤ 60 then nI (len + tln v) else -4) ∧ OGAt g ct1 σ k hs u1 s1 u2 s2 (if ¬ tln v = 0 ∧ len + tln v ≤ 60 then ptT t len v else t) (if ¬ tln v = 0 ∧ len + tln v ≤ 60 then len + tln v else len) ∧ fSame 0 239 ct ct1)) 0 0 (fB g) := by
  refine fs_start (own := RX7) (lv0 := [(0, .ref (fa g 0)), (1, .long (lN v))]) (by decide) rfl (Nat.le_of_ble_eq_true rfl) rfl ?_
  intro p e s m args below meth c ls E hr hlk hnm hP hl hS
  have hx := E.1.1
  have hb := E.1.2.1
  obtain ⟨sv, hO1, hsv⟩ := id hO
  obtain ⟨o_1x, o_1H, o_1G, o_1Y, o_11, o_12, o_1P, o_1V⟩ := id (hO1)
  have o_1n3 := o_1G.n3
  have o_1n6 := o_1G.n6
  have o_1k := o_1G.k
  obtain ⟨o_1h0, ⟨o_1fl, o_1hl, o_1lw⟩, ⟨o_1fs, o_1hs, o_1sw⟩, ⟨o_1fg, o_1hg, o_1gw⟩, ⟨o_1fr, o_1hr, o_1rw⟩, o_1ru⟩ := id o_1H
  obtain ⟨o_1n, o_1nl, o_1y0, o_1k6, -, -, -⟩ := id o_1Y
  obtain ⟨⟨o_1ws, o_1mp, o_1mw, o_1v0⟩, -⟩ := id o_1V
  have o_1p0 := o_1P.1
  have o_1p60 := o_1P.2.2.1
  have o_1a0 := o_11.1
  have o_1b0 := o_12.1
  refine lv_lload_n hx hb dX7_put_0 rfl (lv_at hl 1 rfl) ?_
  refine fs_pi (va_runS (As := [.long (lN v)]) (rest := []) E.1 (c_X7_lengthOfText l g N ct v hv) (lk_RX7_248 E.1.2.2.2.2 ⟨Nat.le_of_ble_eq_true rfl, Nat.le_of_ble_eq_true rfl⟩) (fpreS E hP hS) rfl rfl hl.1 rfl (lv_room (Nat.le_of_ble_eq_true rfl)) dX7_put_1 ⟨Nat.zero_le _, Nat.zero_le _⟩) hS (fun r_1 locs p_1 hS => ?_)
  refine fs_vi (y := (nI (tln v))) p_1 ?_
  have htn := tln_le v
  refine lv_istore_n (lv' := [(3, .int (nI (tln v))), (0, .ref (fa g 0)), (1, .long (lN v))]) hx hb dX7_put_4 rfl hl (by decide) rfl (fun ls hl => ?_)
  refine lv_iload_n hx hb dX7_put_5 rfl (lv_at hl 0 rfl) ?_
  refine lv_if_ne (tgt := 12) hx hb dX7_put_6 (by decide) (fun c_6 => ?_) (fun c_6 => ?_)
  · rw [fz_eqN (by omega)] at c_6
    refine lv_aload_n hx hb dX7_put_12 rfl (lv_at hl 1 rfl) ?_
    refine fs_get E hP (k := 0) (v := .ref (fa g 230)) 4 fc7 o_1x (by omega) (by decide) (wm wl_2 (i := 5) rfl) rfl dX7_put_13 ?_
    refine fs_getN E hP (k := 230) (v := .int (nI len)) 1 fc2 o_1p0 (by omega) (by decide) (j := 18) rfl rfl dX7_put_16 ?_
    refine lv_iload_n hx hb dX7_put_19 rfl (lv_at hl 0 rfl) ?_
    refine lv_iadd hx hb dX7_put_20 ?_
    refine fs_vi (y := (nI (len + tln v))) (nI_add _ _) ?_
    refine lv_bipush (v := (nI 60)) hx hb dX7_put_21 (by decide) ?_
    refine lv_icmp_le (tgt := 29) hx hb dX7_put_23 (by decide) (fun c_23 => ?_) (fun c_23 => ?_)
    · rw [nI_leI (by omega) (by omega)] at c_23
      refine lv_iload_n hx hb dX7_put_29 rfl (lv_at hl 0 rfl) ?_
      refine lv_iconst (v := (nI 1)) hx hb dX7_put_30 (by decide) ?_
      refine lv_isub hx hb dX7_put_31 ?_
      refine lv_istore (lv' := [(4, .int ((nI (tln v)) - (nI 1))), (3, .int (nI (tln v))), (0, .ref (fa g 0)), (1, .long (lN v))]) hx hb dX7_put_32 hl (by decide) rfl (fun ls hl => ?_)
      refine fs_ind (g := g) (N := N) (St := Nat) (fun (q : Nat) (ct_2 : Nat → va_E) (ls : Array Slot) => lv_has ls 5 [(0, .ref (fa g 0)), (1, .long (lN v)), (3, .int (nI (tln v))), (4, .int (nI q - nI 1))] ∧ q ≤ tln v ∧ OGx g ct_2 sv σ k hs u1 s1 u2 s2 (ptT t len v) (len + (tln v - q)) ∧ fSame 0 239 ct ct_2 ∧ ∀ j, 232 ≤ j → j < 239 → ct_2 j = ct j) (fun (q : Nat) => q) ?_ (tln v) _ _ ls _ ⟨lv_sub hl [2, 3, 1, 0] rfl, Nat.le_refl _, (by rw [Nat.sub_self]; exact OGx.pad hO1 (hO1.2.2.2.2.2.2.1.congr (fun i hi => if_pos hi)) fSame.rf), fSame.rf, fun _ _ _ => rfl⟩ hP hS
      clear hl hP hS
      intro st ct_2 H ls locs hI hP hS ih
      obtain ⟨q, rfl⟩ : ∃ z, z = st := ⟨_, rfl⟩
      obtain ⟨hl, hI⟩ := hI
      obtain ⟨o_3x, o_3H, o_3G, o_3Y, o_31, o_32, o_3P, o_3V⟩ := id (hI.2.1)
      have o_3n3 := o_3G.n3
      have o_3n6 := o_3G.n6
      have o_3k := o_3G.k
      obtain ⟨o_3h0, ⟨o_3fl, o_3hl, o_3lw⟩, ⟨o_3fs, o_3hs, o_3sw⟩, ⟨o_3fg, o_3hg, o_3gw⟩, ⟨o_3fr, o_3hr, o_3rw⟩, o_3ru⟩ := id o_3H
      obtain ⟨o_3n, o_3nl, o_3y0, o_3k6, -, -, -⟩ := id o_3Y
      obtain ⟨⟨o_3ws, o_3mp, o_3mw, o_3v0⟩, -⟩ := id o_3V
      have o_3p0 := o_3P.1
      have o_3p60 := o_3P.2.2.1
      have o_3a0 := o_31.1
      have o_3b0 := o_32.1
      have hI1 := hI.1
      have hI3 := hI.2.2.2
      replace hI := (⟨hI.1, hI.2.1, hI.2.2.1⟩ : _ ∧ _ ∧ _)
      refine lv_iload hx hb dX7_put_34 (lv_at hl 3 rfl) ?_
      refine lv_if_lt (tgt := 65) hx hb dX7_put_36 (by decide) (fun c_36 => ?_) (fun c_36 => ?_)
      · rw [nsub_lt (by omega)] at c_36
        refine lv_aload_n hx hb dX7_put_65 rfl (lv_at hl 0 rfl) ?_
        refine fs_get E hP (k := 0) (v := .ref (fa g 230)) 4 fc7 o_3x (by omega) (by decide) (wm wl_2 (i := 5) rfl) rfl dX7_put_66 ?_
        refine fs_getN E hP (k := 230) (v := .int (nI (len + (tln v - q)))) 1 fc2 o_3p0 (by omega) (by decide) (j := 18) rfl rfl dX7_put_69 ?_
        refine fs_iret E hr hlk hP hS dX7_put_72 ?_
        have hq1 : tln v - q = tln v := by omega
        have hog := hI.2.1
        rw [hq1] at hog
        refine ⟨?_, ?_, hI.2.2⟩
        · rw [if_neg c_6, if_pos c_23, hq1]
        · rw [if_pos ⟨c_6, c_23⟩, if_pos ⟨c_6, c_23⟩]
          exact OGx.atk hog hsv (fun j hj => hI3 j (by omega) (by omega))
      · rw [nsub_lt (by omega)] at c_36
        have eq1 : nI q - nI 1 = nI (q - 1) := pk_sub (by omega)
        rw [eq1] at hl
        have hby := ((tln_ok (v := v) (by omega)).1 (q - 1) (by omega)).2
        refine lv_aload_n hx hb dX7_put_39 rfl (lv_at hl 0 rfl) ?_
        refine fs_get E hP (k := 0) (v := .ref (fa g 230)) 4 fc7 o_3x (by omega) (by decide) (wm wl_2 (i := 5) rfl) rfl dX7_put_40 ?_
        refine lv_lload_n hx hb dX7_put_43 rfl (lv_at hl 1 rfl) ?_
        refine lv_bipush (v := (nI 8)) hx hb dX7_put_44 (by decide) ?_
        refine lv_iload hx hb dX7_put_46 (lv_at hl 3 rfl) ?_
        refine lv_imul hx hb dX7_put_48 ?_
        refine fs_vi (y := (nI (8 * (q - 1)))) (pk_mul _ _) ?_
        refine lv_lushr (v := (lN (rs v (q - 1)))) hx hb dX7_put_49 (rs_shk hv (by omega)) ?_
        refine lv_ldc2 (v := 255) hx hb E.1.2.2.2.1 (E.1.2.2.2.2 _ (wm wl_33 (i := 14) rfl)) dX7_put_50 ?_
        refine lv_land hx hb dX7_put_53 ?_
        refine fs_vv (y := .long (lN (byv v (q - 1)))) (congrArg Value.long (rs_and hv)) ?_
        refine lv_l2i (v := (nI (byv v (q - 1)))) hx hb dX7_put_54 (lN_i _) ?_
        refine lv_i2c (v := (nI (byv v (q - 1)))) hx hb dX7_put_55 (char_id _ (byv_lt _ _)) ?_
        refine fs_v (va_runV (As := [.int (nI (byv v (q - 1)))]) (rest := []) E.1 (c_X2_append l g N ct_2 230 (ptT t len v) (len + (tln v - q)) (byv v (q - 1)) (by omega) (by omega) (by omega) o_3P) (lk_RX7_254 E.1.2.2.2.2 ⟨Nat.le_of_ble_eq_true rfl, Nat.le_of_ble_eq_true rfl⟩) (fpreV E hP hS fc2 o_3p0 (by omega)) rfl rfl hl.1 rfl (lv_room (Nat.le_of_ble_eq_true rfl)) dX7_put_56 ⟨Nat.zero_le _, Nat.zero_le _⟩) hS (fun ct_4 H locs p_56 hP hS => ?_)
        have hpp : PadAt g ct_4 230 (ptT t len v) (len + (tln v - (q - 1))) := by
          have e1 := p_56.1
          rw [show len + (tln v - q) + 1 = len + (tln v - (q - 1)) by omega] at e1
          refine e1.congr (fun j hj => ?_)
          by_cases z : j = len + (tln v - q)
          · rw [if_pos z]; subst z; unfold ptT; rw [if_neg (by omega)]; exact congrArg (byv v) (by omega)
          · rw [if_neg z]
        have og7 := OGx.pad hI.2.1 hpp p_56.2
        refine lv_iinc (v := (nI (q - 1) - nI 1)) (lv' := [(4, .int (nI (q - 1) - nI 1)), (0, .ref (fa g 0)), (1, .long (lN v)), (3, .int (nI (tln v)))]) hx hb dX7_put_59 hl (k := 3) rfl (nsub1 _) (by decide) rfl (fun ls hl => ?_)
        refine lv_goto (tgt := 34) hx hb dX7_put_62 (by decide) ?_
        exact ih (q - 1) _ _ ls _ (by (try dsimp only); omega) ⟨lv_sub hl [1, 2, 3, 0] rfl, by omega, og7, (show fSame 0 239 _ _ from (fSame.tr2 (fSame.tr2 fSame.rf hI.2.2 (by omega) (by omega)) p_56.2 (by omega) (by omega))), fun j h1 h2 => (p_56.2 j (by omega)).trans (hI3 j h1 h2)⟩ hP hS
    · rw [nI_leI (by omega) (by omega)] at c_23
      refine lv_bipush (v := (-4)) hx hb dX7_put_26 (by decide) ?_
      refine fs_iret E hr hlk hP hS dX7_put_28 ?_
      refine ⟨?_, ?_, fSame.rf⟩
      · rw [if_neg c_6, if_neg c_23]
      · rw [if_neg (fun z => c_23 z.2), if_neg (fun z => c_23 z.2)]; exact hO
  · rw [fz_eqN (by omega)] at c_6
    refine lv_bipush (v := (-2)) hx hb dX7_put_9 (by decide) ?_
    refine fs_iret E hr hlk hP hS dX7_put_11 ?_
    refine ⟨?_, ?_, fSame.rf⟩
    · rw [if_pos c_6]
    · rw [if_neg (fun z => z.1 c_6), if_neg (fun z => z.1 c_6)]; exact hO
