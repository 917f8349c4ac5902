/-! the worlds by their numbers -/
def dgt (B k e : Nat) : Nat := (k / B ^ e) % B
def bxd (p d : Nat) : Nat := if d < p then d else d + 1
/-- the box of the person p in the world of number k -/
def wd (n k p : Nat) : Nat := bxd p (dgt (n - 1) k (n - 1 - p))
/-- how many worlds there are -/
def wM (n : Nat) : Nat := (n - 1) ^ n
theorem wM_le {n : Nat} (h3 : 3 ≤ n) (h6 : n ≤ 6) : wM n ≤ 15625 ∧ 0 < wM n := by
  rcases (show n = 3 ∨ n = 4 ∨ n = 5 ∨ n = 6 by omega) with rfl | rfl | rfl | rfl <;> decide
theorem dgt_lt {B : Nat} (h : 0 < B) (k e : Nat) : dgt B k e < B := Nat.mod_lt _ h
theorem bxd_lt {n p d : Nat} (hp : p < n) (hd : d < n - 1) : bxd p d < n ∧ bxd p d ≠ p := by unfold bxd; split <;> omega
theorem wd_ok {n : Nat} (h : 3 ≤ n) (k : Nat) : Wok n (wd n k) := fun p hp => (bxd_lt hp (dgt_lt (by omega) _ _)).1
theorem dgt_0 {B e : Nat} : dgt B 0 e = 0 := by unfold dgt; rw [Nat.zero_div, Nat.zero_mod]
/-- one more, when all lower digits are the greatest and this one is not -/
theorem dgt_step {B k e : Nat} (hB : 0 < B) (hl : k % B ^ e + 1 = B ^ e) (hd : dgt B k e + 1 < B) : (∀ j, j < e → dgt B (k + 1) j = 0) ∧ dgt B (k + 1) e = dgt B k e + 1 ∧ ∀ j, e < j → dgt B (k + 1) j = dgt B k j := by
  have hP : 0 < B ^ e := Nat.pow_pos hB
  have hk : k + 1 = (k / B ^ e + 1) * B ^ e := by
    have h1 := Nat.div_add_mod k (B ^ e)
    rw [Nat.add_mul, Nat.one_mul, Nat.mul_comm (k / B ^ e)]
    omega
  have hq : (k + 1) / B ^ e = k / B ^ e + 1 := by rw [hk]; exact Nat.mul_div_cancel _ hP
  refine ⟨fun j hj => ?_, ?_, fun j hj => ?_⟩
  · unfold dgt
    have e1 : B ^ e = B ^ j * (B * B ^ (e - j - 1)) := by
      rw [← Nat.mul_assoc, ← Nat.pow_succ, ← Nat.pow_add]
      congr 1; omega
    have e2 : (k + 1) / B ^ j = (k / B ^ e + 1) * B ^ (e - j - 1) * B := by
      rw [hk, show (k / B ^ e + 1) * B ^ e = ((k / B ^ e + 1) * B ^ (e - j - 1) * B) * B ^ j by
        rw [show B ^ e = B ^ (e - j - 1) * B * B ^ j by rw [e1]; rw [Nat.mul_comm (B ^ j), Nat.mul_comm B]]
        simp only [Nat.mul_assoc]]
      exact Nat.mul_div_cancel _ (Nat.pow_pos hB)
    rw [e2]; exact Nat.mul_mod_left _ _
  · unfold dgt at *
    rw [hq, Nat.add_mod]
    rw [Nat.mod_eq_of_lt (show 1 < B by omega)]
    exact Nat.mod_eq_of_lt hd
  · unfold dgt at *
    have e3 : B ^ j = B ^ e * (B * B ^ (j - e - 1)) := by
      rw [← Nat.mul_assoc, ← Nat.pow_succ, ← Nat.pow_add]
      congr 1; omega
    rw [e3, ← Nat.div_div_eq_div_mul, ← Nat.div_div_eq_div_mul, ← Nat.div_div_eq_div_mul, ← Nat.div_div_eq_div_mul, hq]
    have e4 : (k / B ^ e + 1) / B = k / B ^ e / B := by
      have h1 := Nat.div_add_mod (k / B ^ e) B
      have h2 := Nat.div_add_mod (k / B ^ e + 1) B
      have h3 : (k / B ^ e + 1) % B = (k / B ^ e) % B + 1 := by
        rw [Nat.add_mod, Nat.mod_eq_of_lt (show 1 < B by omega)]; exact Nat.mod_eq_of_lt hd
      rw [h3] at h2
      have h4 : B * ((k / B ^ e + 1) / B) = B * (k / B ^ e / B) := by omega
      exact Nat.eq_of_mul_eq_mul_left hB h4
    rw [e4]
/-- all lower digits the greatest, and this one too -/
theorem dgt_carry {B k e : Nat} (hB : 0 < B) (hl : k % B ^ e + 1 = B ^ e) (hd : ¬ dgt B k e + 1 < B) : k % B ^ (e + 1) + 1 = B ^ (e + 1) := by
  have h0 := dgt_lt hB k e
  unfold dgt at *
  rw [Nat.pow_succ, Nat.mod_mul]
  have h1 : (k / B ^ e) % B = B - 1 := by omega
  rw [h1]
  have h2 : B ^ e * (B - 1) + B ^ e = B ^ e * B := by
    rw [← Nat.mul_succ]; congr 1; omega
  omega
theorem bxd_next {n p d : Nat} (hp : p < n) (hd : d + 1 < n - 1) : (if bxd p d + 1 = p then bxd p d + 2 else bxd p d + 1) = bxd p (d + 1) := by
  unfold bxd; split <;> split <;> split <;> omega
theorem bxd_last {n p d : Nat} (hp : p < n) (hd : d < n - 1) (h : ¬ d + 1 < n - 1) : n ≤ (if bxd p d + 1 = p then bxd p d + 2 else bxd p d + 1) := by
  unfold bxd; split <;> split <;> omega
theorem bxd_more {n p d : Nat} (hp : p < n) (hd : d + 1 < n - 1) : bxd p (d + 1) < n := by unfold bxd; split <;> omega
theorem bxd_0 (p : Nat) : bxd p 0 = if p = 0 then 1 else 0 := by unfold bxd; split <;> split <;> omega
/-- t - 1, or -1 -/
def mI (t : Nat) : Int32 := if t = 0 then -1 else nI (t - 1)
theorem mI_s (t : Nat) : mI (t + 1) = nI t := by unfold mI; rw [if_neg (by omega)]; rfl
theorem mI_p {t : Nat} (h : 0 < t) : mI t = nI (t - 1) := by unfold mI; rw [if_neg (by omega)]
theorem mI_d {t : Nat} (h : 0 < t) (h2 : t < 1000000) : mI t + (-1) = mI (t - 1) := by
  rw [mI_p h]
  by_cases q : t = 1
  · subst q; rfl
  · rw [mI_p (by omega), show t - 1 = (t - 1 - 1) + 1 by omega, pk_m1]; rfl
theorem mI_lt {t : Nat} (h2 : t < 1000000) : mI t < 0 ↔ t = 0 := by
  by_cases q : t = 0
  · subst q; exact ⟨fun _ => rfl, fun _ => by decide⟩
  · rw [mI_p (by omega), fz_ltN (by omega)]; omega
theorem mI_sub {n : Nat} (h : 0 < n) : nI n - nI 1 = mI n := by rw [mI_p h, pk_sub (by omega)]

set_option maxRecDepth 100000 in
set_option maxHeartbeats 4000000 in
theorem c_X6_firstBoxFor (l : Launch) (g : fG) (N : Nat) (ct : Nat → va_E) (q : Nat) (hq : q < 2147483648) : Met l yX6_firstBoxFor (wsU yX6_firstBoxFor cX6_firstBoxFor 1 (some .int)) rX6_firstBoxFor (fPre g N ct [.int (nI q)]) (fQpi (fun r => r = nI (bxd q 0))) 0 0 (fB g) := by
  refine fs_start (own := RX6) (lv0 := [(0, .int (nI q))]) (by decide) rfl (Nat.le_of_ble_eq_true rfl) rfl ?_
  intro p e s m args below meth c ls E hr hlk hnm hP hl hS
  have hx := E.1.1
  have hb := E.1.2.1
  refine lv_iload_n hx hb dX6_firstBoxFor_0 rfl (lv_at hl 0 rfl) ?_
  refine lv_if_ne (tgt := 8) hx hb dX6_firstBoxFor_1 (by decide) (fun c_1 => ?_) (fun c_1 => ?_)
  · rw [fz_eqN (by omega)] at c_1
    refine lv_iconst (v := (nI 0)) hx hb dX6_firstBoxFor_8 (by decide) ?_
    refine fs_piret E hr hlk hS dX6_firstBoxFor_9 ?_
    rw [bxd_0, if_neg c_1]
  · rw [fz_eqN (by omega)] at c_1
    refine lv_iconst (v := (nI 1)) hx hb dX6_firstBoxFor_4 (by decide) ?_
    refine lv_goto (tgt := 9) hx hb dX6_firstBoxFor_5 (by decide) ?_
    refine fs_piret E hr hlk hS dX6_firstBoxFor_9 ?_
    rw [bxd_0, if_pos c_1]

set_option maxRecDepth 100000 in
set_option maxHeartbeats 4000000 in
theorem c_X6_begin (l : Launch) (g : fG) (N : Nat) (ct : Nat → va_E) (k n : Nat) (b0 : Int32) (f : Nat → Int32) (hN : k + 2 ≤ N) (hn3 : 3 ≤ n) (hn6 : n ≤ 6) (hc0 : ct k = .inr (6, [.int b0, .ref (fa g (k + 1))])) (hc1 : ct (k + 1) = .inl (fcI g, 6, .inl f)) : Met l yX6_begin (wsU yX6_begin cX6_begin 4 (some .int)) rX6_begin (fPre g N ct [.ref (fa g k), .int (nI n)]) (fQi g N (fun r ct1 => r = nI (wM n) ∧ ct1 k = .inr (6, [.int (nI n), .ref (fa g (k + 1))]) ∧ (∃ f1 : Nat → Int32, ct1 (k + 1) = .inl (fcI g, 6, .inl f1) ∧ RW n (wd n 0) f1) ∧ fSame k (k + 2) ct ct1)) 0 0 (fB g) := by
  refine fs_start (own := RX6) (lv0 := [(0, .ref (fa g k)), (1, .int (nI n))]) (by decide) rfl (Nat.le_of_ble_eq_true rfl) rfl ?_
  intro p e s m args below meth c ls E hr hlk hnm hP hl hS
  have hx := E.1.1
  have hb := E.1.2.1
  refine lv_aload_n hx hb dX6_begin_0 rfl (lv_at hl 0 rfl) ?_
  refine lv_iload_n hx hb dX6_begin_1 rfl (lv_at hl 1 rfl) ?_
  refine fs_put E hP hS (k := k) 0 fc6 hc0 (by omega) (by decide) (wm wl_9 (i := 19) rfl) rfl rfl rfl rfl (Nat.le_of_ble_eq_true rfl) dX6_begin_2 (fun ct_1 H locs q_2 hP hS => ?_)
  have h_3 : ct_1 k = .inr (6, [.int (nI n), .ref (fa g (k + 1))]) := by rw [q_2]; exact fu_eq _ _ _
  have h_4 : ct_1 (k + 1) = .inl (fcI g, 6, .inl f) := by rw [q_2]; exact (fu_ne (by omega)).trans hc1
  refine lv_iconst (v := (nI 1)) hx hb dX6_begin_5 (by decide) ?_
  refine lv_istore_n (lv' := [(2, .int (nI 1)), (0, .ref (fa g k)), (1, .int (nI n))]) hx hb dX6_begin_6 rfl hl (by decide) rfl (fun ls hl => ?_)
  refine lv_iconst (v := (nI 0)) hx hb dX6_begin_7 (by decide) ?_
  refine lv_istore_n (lv' := [(3, .int (nI 0)), (2, .int (nI 1)), (0, .ref (fa g k)), (1, .int (nI n))]) hx hb dX6_begin_8 rfl hl (by decide) rfl (fun ls hl => ?_)
  refine fs_ind (g := g) (N := N) (St := Nat) (fun (i : Nat) (ct_5 : Nat → va_E) (ls : Array Slot) => lv_has ls 4 [(0, .ref (fa g k)), (1, .int (nI n)), (2, .int (nI ((n - 1) ^ (min i n)))), (3, .int (nI i))] ∧ ct_5 = fu ct_1 (k + 1) (.inl (fcI g, 6, .inl (cpF i (fun j => if j < n then nI (wd n 0 j) else -1) f))) ∧ i ≤ 6) (fun i => 6 - i) ?_ 0 _ _ ls _ ⟨lv_sub hl [2, 3, 1, 0] rfl, by rw [cpF_0, fu_same h_4], Nat.zero_le _⟩ hP hS
  clear hl hP hS
  intro st ct_5 H ls locs hI hP hS ih
  obtain ⟨i, rfl⟩ : ∃ z, z = st := ⟨_, rfl⟩
  obtain ⟨hl, hI⟩ := hI
  have hI2 := hI.2
  have h_6 : ct_5 k = .inr (6, [.int (nI n), .ref (fa g (k + 1))]) := by rw [hI.1]; exact (fu_ne (by omega)).trans h_3
  have h_7 : ct_5 (k + 1) = .inl (fcI g, 6, .inl (cpF i (fun j => if j < n then nI (wd n 0 j) else -1) f)) := by rw [hI.1]; exact fu_eq _ _ _
  refine lv_iload_n hx hb dX6_begin_9 rfl (lv_at hl 3 rfl) ?_
  refine lv_aload_n hx hb dX6_begin_10 rfl (lv_at hl 0 rfl) ?_
  refine fs_get E hP (k := k) (v := .ref (fa g (k + 1))) 1 fc6 h_6 (by omega) (by decide) (wm wl_4 (i := 6) rfl) rfl dX6_begin_11 ?_
  refine fs_alenI E hP (k := (k + 1)) h_7 (by omega) dX6_begin_14 ?_
  refine lv_icmp_ge (tgt := 67) hx hb dX6_begin_15 (by decide) (fun c_15 => ?_) (fun c_15 => ?_)
  · rw [nI_leI (by omega) (by omega)] at c_15
    refine lv_iload_n hx hb dX6_begin_67 rfl (lv_at hl 2 rfl) ?_
    refine fs_iret E hr hlk hP hS dX6_begin_68 ?_
    refine ⟨by rw [show i = 6 by omega, Nat.min_eq_right hn6]; rfl, h_6, ⟨_, h_7, fun p9 hp9 => by rw [cpF_in (by omega)]⟩, (fSame.ap (fSame.ap fSame.rf q_2 (by omega) (by omega)) hI.1 (by omega) (by omega))⟩
  · rw [nI_leI (by omega) (by omega)] at c_15
    refine lv_aload_n hx hb dX6_begin_18 rfl (lv_at hl 0 rfl) ?_
    refine fs_get E hP (k := k) (v := .ref (fa g (k + 1))) 1 fc6 h_6 (by omega) (by decide) (wm wl_4 (i := 6) rfl) rfl dX6_begin_19 ?_
    refine lv_iload_n hx hb dX6_begin_22 rfl (lv_at hl 3 rfl) ?_
    refine lv_iload_n hx hb dX6_begin_23 rfl (lv_at hl 3 rfl) ?_
    refine lv_aload_n hx hb dX6_begin_24 rfl (lv_at hl 0 rfl) ?_
    refine fs_get E hP (k := k) (v := .int (nI n)) 0 fc6 h_6 (by omega) (by decide) (wm wl_9 (i := 19) rfl) rfl dX6_begin_25 ?_
    refine lv_icmp_ge (tgt := 38) hx hb dX6_begin_28 (by decide) (fun c_28 => ?_) (fun c_28 => ?_)
    · rw [nI_leI (by omega) (by omega)] at c_28
      refine lv_iconst (v := (-1)) hx hb dX6_begin_38 (by decide) ?_
      refine fs_iast E hP hS (k := (k + 1)) h_7 (by omega) (vp_in_nI (by omega) (by omega)) dX6_begin_39 (fun ct_8 H locs q_9 hP hS => ?_)
      rw [nI_clamp (by omega)] at q_9
      have h_10 : ct_8 k = .inr (6, [.int (nI n), .ref (fa g (k + 1))]) := by rw [q_9]; exact (fu_ne (by omega)).trans h_6
      have h_11 : ct_8 (k + 1) = .inl (fcI g, 6, .inl (upd (cpF i (fun j => if j < n then nI (wd n 0 j) else -1) f) i (-1))) := by rw [q_9]; exact fu_eq _ _ _
      refine lv_iload_n hx hb dX6_begin_40 rfl (lv_at hl 2 rfl) ?_
      refine lv_iload_n hx hb dX6_begin_41 rfl (lv_at hl 3 rfl) ?_
      refine lv_aload_n hx hb dX6_begin_42 rfl (lv_at hl 0 rfl) ?_
      refine fs_get E hP (k := k) (v := .int (nI n)) 0 fc6 h_10 (by omega) (by decide) (wm wl_9 (i := 19) rfl) rfl dX6_begin_43 ?_
      refine lv_icmp_ge (tgt := 58) hx hb dX6_begin_46 (by decide) (fun c_46 => ?_) (fun c_46 => ?_)
      · rw [nI_leI (by omega) (by omega)] at c_46
        refine lv_iconst (v := (nI 1)) hx hb dX6_begin_58 (by decide) ?_
        refine lv_imul hx hb dX6_begin_59 ?_
        refine fs_vi (y := (nI ((n - 1) ^ (min (i + 1) n)))) (by rw [Nat.min_eq_right (by omega : n ≤ i), Nat.min_eq_right (by omega : n ≤ i + 1), pk_mul, Nat.mul_one]) ?_
        refine lv_istore_n (lv' := [(2, .int (nI ((n - 1) ^ (min (i + 1) n)))), (0, .ref (fa g k)), (1, .int (nI n)), (3, .int (nI i))]) hx hb dX6_begin_60 rfl hl (by decide) rfl (fun ls hl => ?_)
        refine lv_iinc (v := (nI (i + 1))) (lv' := [(3, .int (nI (i + 1))), (2, .int (nI ((n - 1) ^ (min (i + 1) n)))), (0, .ref (fa g k)), (1, .int (nI n))]) hx hb dX6_begin_61 hl (k := 3) rfl (nI_1 _) (by decide) rfl (fun ls hl => ?_)
        refine lv_goto (tgt := 9) hx hb dX6_begin_64 (by decide) ?_
        exact ih (i + 1) _ _ ls _ (by omega) ⟨lv_sub hl [2, 3, 1, 0] rfl, by rw [q_9, hI.1, fu_fu]; exact congrArg (fun z => fu ct_1 (k + 1) (.inl (fcI g, 6, .inl z))) (cpF_sv (by rw [if_neg (by omega)])), by omega⟩ hP hS
      · rw [nI_leI (by omega) (by omega)] at c_46
        refine lv_aload_n hx hb dX6_begin_49 rfl (lv_at hl 0 rfl) ?_
        refine fs_get E hP (k := k) (v := .int (nI n)) 0 fc6 h_10 (by omega) (by decide) (wm wl_9 (i := 19) rfl) rfl dX6_begin_50 ?_
        refine lv_iconst (v := (nI 1)) hx hb dX6_begin_53 (by decide) ?_
        refine lv_isub hx hb dX6_begin_54 ?_
        refine fs_vi (y := (nI (n - 1))) (pk_sub (by omega)) ?_
        refine lv_goto (tgt := 59) hx hb dX6_begin_55 (by decide) ?_
        refine lv_imul hx hb dX6_begin_59 ?_
        refine fs_vi (y := (nI ((n - 1) ^ (min (i + 1) n)))) (by rw [Nat.min_eq_left (by omega : i ≤ n), Nat.min_eq_left (by omega : i + 1 ≤ n), pk_mul, Nat.pow_succ]) ?_
        refine lv_istore_n (lv' := [(2, .int (nI ((n - 1) ^ (min (i + 1) n)))), (0, .ref (fa g k)), (1, .int (nI n)), (3, .int (nI i))]) hx hb dX6_begin_60 rfl hl (by decide) rfl (fun ls hl => ?_)
        refine lv_iinc (v := (nI (i + 1))) (lv' := [(3, .int (nI (i + 1))), (2, .int (nI ((n - 1) ^ (min (i + 1) n)))), (0, .ref (fa g k)), (1, .int (nI n))]) hx hb dX6_begin_61 hl (k := 3) rfl (nI_1 _) (by decide) rfl (fun ls hl => ?_)
        refine lv_goto (tgt := 9) hx hb dX6_begin_64 (by decide) ?_
        exact ih (i + 1) _ _ ls _ (by omega) ⟨lv_sub hl [2, 3, 1, 0] rfl, by rw [q_9, hI.1, fu_fu]; exact congrArg (fun z => fu ct_1 (k + 1) (.inl (fcI g, 6, .inl z))) (cpF_sv (by rw [if_neg (by omega)])), by omega⟩ hP hS
    · rw [nI_leI (by omega) (by omega)] at c_28
      refine lv_iload_n hx hb dX6_begin_31 rfl (lv_at hl 3 rfl) ?_
      refine fs_pi (va_runS (As := [.int (nI i)]) (rest := [.int (nI i), .ref (fa g (k + 1))]) E.1 (c_X6_firstBoxFor l g N ct_5 i (by omega)) (lk_RX6_19 E.1.2.2.2.2 ⟨Nat.le_of_ble_eq_true rfl, Nat.le_of_ble_eq_true rfl⟩) (fpreS E hP hS) rfl rfl hl.1 rfl (lv_room (Nat.le_of_ble_eq_true rfl)) dX6_begin_32 ⟨Nat.zero_le _, Nat.zero_le _⟩) hS (fun r_32 locs p_32 hS => ?_)
      refine fs_vi (y := (nI (bxd i 0))) p_32 ?_
      refine lv_goto (tgt := 39) hx hb dX6_begin_35 (by decide) ?_
      refine fs_iast E hP hS (k := (k + 1)) h_7 (by omega) (vp_in_nI (by omega) (by omega)) dX6_begin_39 (fun ct_12 H locs q_13 hP hS => ?_)
      rw [nI_clamp (by omega)] at q_13
      have h_14 : ct_12 k = .inr (6, [.int (nI n), .ref (fa g (k + 1))]) := by rw [q_13]; exact (fu_ne (by omega)).trans h_6
      have h_15 : ct_12 (k + 1) = .inl (fcI g, 6, .inl (upd (cpF i (fun j => if j < n then nI (wd n 0 j) else -1) f) i (nI (bxd i 0)))) := by rw [q_13]; exact fu_eq _ _ _
      refine lv_iload_n hx hb dX6_begin_40 rfl (lv_at hl 2 rfl) ?_
      refine lv_iload_n hx hb dX6_begin_41 rfl (lv_at hl 3 rfl) ?_
      refine lv_aload_n hx hb dX6_begin_42 rfl (lv_at hl 0 rfl) ?_
      refine fs_get E hP (k := k) (v := .int (nI n)) 0 fc6 h_14 (by omega) (by decide) (wm wl_9 (i := 19) rfl) rfl dX6_begin_43 ?_
      refine lv_icmp_ge (tgt := 58) hx hb dX6_begin_46 (by decide) (fun c_46 => ?_) (fun c_46 => ?_)
      · rw [nI_leI (by omega) (by omega)] at c_46
        refine lv_iconst (v := (nI 1)) hx hb dX6_begin_58 (by decide) ?_
        refine lv_imul hx hb dX6_begin_59 ?_
        refine fs_vi (y := (nI ((n - 1) ^ (min (i + 1) n)))) (by rw [Nat.min_eq_right (by omega : n ≤ i), Nat.min_eq_right (by omega : n ≤ i + 1), pk_mul, Nat.mul_one]) ?_
        refine lv_istore_n (lv' := [(2, .int (nI ((n - 1) ^ (min (i + 1) n)))), (0, .ref (fa g k)), (1, .int (nI n)), (3, .int (nI i))]) hx hb dX6_begin_60 rfl hl (by decide) rfl (fun ls hl => ?_)
        refine lv_iinc (v := (nI (i + 1))) (lv' := [(3, .int (nI (i + 1))), (2, .int (nI ((n - 1) ^ (min (i + 1) n)))), (0, .ref (fa g k)), (1, .int (nI n))]) hx hb dX6_begin_61 hl (k := 3) rfl (nI_1 _) (by decide) rfl (fun ls hl => ?_)
        refine lv_goto (tgt := 9) hx hb dX6_begin_64 (by decide) ?_
        exact ih (i + 1) _ _ ls _ (by omega) ⟨lv_sub hl [2, 3, 1, 0] rfl, by rw [q_13, hI.1, fu_fu]; exact congrArg (fun z => fu ct_1 (k + 1) (.inl (fcI g, 6, .inl z))) (cpF_sv (by rw [if_pos (by omega)]; unfold wd; rw [dgt_0])), by omega⟩ hP hS
      · rw [nI_leI (by omega) (by omega)] at c_46
        refine lv_aload_n hx hb dX6_begin_49 rfl (lv_at hl 0 rfl) ?_
        refine fs_get E hP (k := k) (v := .int (nI n)) 0 fc6 h_14 (by omega) (by decide) (wm wl_9 (i := 19) rfl) rfl dX6_begin_50 ?_
        refine lv_iconst (v := (nI 1)) hx hb dX6_begin_53 (by decide) ?_
        refine lv_isub hx hb dX6_begin_54 ?_
        refine fs_vi (y := (nI (n - 1))) (pk_sub (by omega)) ?_
        refine lv_goto (tgt := 59) hx hb dX6_begin_55 (by decide) ?_
        refine lv_imul hx hb dX6_begin_59 ?_
        refine fs_vi (y := (nI ((n - 1) ^ (min (i + 1) n)))) (by rw [Nat.min_eq_left (by omega : i ≤ n), Nat.min_eq_left (by omega : i + 1 ≤ n), pk_mul, Nat.pow_succ]) ?_
        refine lv_istore_n (lv' := [(2, .int (nI ((n - 1) ^ (min (i + 1) n)))), (0, .ref (fa g k)), (1, .int (nI n)), (3, .int (nI i))]) hx hb dX6_begin_60 rfl hl (by decide) rfl (fun ls hl => ?_)
        refine lv_iinc (v := (nI (i + 1))) (lv' := [(3, .int (nI (i + 1))), (2, .int (nI ((n - 1) ^ (min (i + 1) n)))), (0, .ref (fa g k)), (1, .int (nI n))]) hx hb dX6_begin_61 hl (k := 3) rfl (nI_1 _) (by decide) rfl (fun ls hl => ?_)
        refine lv_goto (tgt := 9) hx hb dX6_begin_64 (by decide) ?_
        exact ih (i + 1) _ _ ls _ (by omega) ⟨lv_sub hl [2, 3, 1, 0] rfl, by rw [q_13, hI.1, fu_fu]; exact congrArg (fun z => fu ct_1 (k + 1) (.inl (fcI g, 6, .inl z))) (cpF_sv (by rw [if_pos (by omega)]; unfold wd; rw [dgt_0])), by omega⟩ hP hS

set_option maxRecDepth 100000 in
set_option maxHeartbeats 4000000 in
theorem c_X6_step (l : Launch) (g : fG) (N : Nat) (ct : Nat → va_E) (k n q : Nat) (f : Nat → Int32) (hN : k + 2 ≤ N) (hn3 : 3 ≤ n) (hn6 : n ≤ 6) (hq : q < wM n) (hc0 : ct k = .inr (6, [.int (nI n), .ref (fa g (k + 1))])) (hc1 : ct (k + 1) = .inl (fcI g, 6, .inl f)) (hRW : RW n (wd n q) f) : Met l yX6_step (wsU yX6_step cX6_step 3 none) rX6_step (fPre g N ct [.ref (fa g k)]) (fQv g N (fun ct1 => ∃ f1 : Nat → Int32, ct1 = fu ct (k + 1) (.inl (fcI g, 6, .inl f1)) ∧ (q + 1 < wM n → RW n (wd n (q + 1)) f1))) 0 0 (fB g) := by
  refine fs_start (own := RX6) (lv0 := [(0, .ref (fa g k))]) (by decide) rfl (Nat.le_of_ble_eq_true rfl) rfl ?_
  intro p e s m args below meth c ls E hr hlk hnm hP hl hS
  have hx := E.1.1
  have hb := E.1.2.1
  refine lv_aload_n hx hb dX6_step_0 rfl (lv_at hl 0 rfl) ?_
  refine fs_get E hP (k := k) (v := .int (nI n)) 0 fc6 hc0 (by omega) (by decide) (wm wl_9 (i := 19) rfl) rfl dX6_step_1 ?_
  refine lv_iconst (v := (nI 1)) hx hb dX6_step_4 (by decide) ?_
  refine lv_isub hx hb dX6_step_5 ?_
  refine fs_vi (y := (mI n)) (mI_sub (by omega)) ?_
  refine lv_istore_n (lv' := [(1, .int (mI n)), (0, .ref (fa g k))]) hx hb dX6_step_6 rfl hl (by decide) rfl (fun ls hl => ?_)
  refine fs_ind (g := g) (N := N) (St := Nat) (fun (t : Nat) (ct_1 : Nat → va_E) (ls : Array Slot) => lv_has ls 3 [(0, .ref (fa g k)), (1, .int (mI t))] ∧ t ≤ n ∧ q % (n - 1) ^ (n - t) + 1 = (n - 1) ^ (n - t) ∧ ∃ f1 : Nat → Int32, ct_1 = fu ct (k + 1) (.inl (fcI g, 6, .inl f1)) ∧ ∀ p, p < 6 → f1 p = if p < t then nI (wd n q p) else if p < n then nI (bxd p 0) else -1) (fun (t : Nat) => t) ?_ n _ _ ls _ ⟨lv_sub hl [1, 0] rfl, Nat.le_refl _, by rw [Nat.sub_self, Nat.pow_zero, Nat.mod_one], f, by rw [fu_same hc1], fun p9 hp9 => by rw [hRW p9 hp9]; split <;> rfl⟩ hP hS
  clear hl hP hS
  intro st ct_1 H ls locs hI hP hS ih
  obtain ⟨t, rfl⟩ : ∃ z, z = st := ⟨_, rfl⟩
  obtain ⟨hl, hI⟩ := hI
  obtain ⟨ht, hlow, f1, hct, hf1⟩ := hI
  have hb0 : ct_1 k = .inr (6, [.int (nI n), .ref (fa g (k + 1))]) := by rw [hct]; exact (fu_ne (by omega)).trans hc0
  have hb1 : ct_1 (k + 1) = .inl (fcI g, 6, .inl f1) := by rw [hct]; exact fu_eq _ _ _
  skip
  refine lv_iload_n hx hb dX6_step_7 rfl (lv_at hl 1 rfl) ?_
  refine lv_if_lt (tgt := 66) hx hb dX6_step_8 (by decide) (fun c_8 => ?_) (fun c_8 => ?_)
  · rw [mI_lt (by omega)] at c_8
    refine fs_vret E hr hlk hP hS dX6_step_66 ?_
    refine ⟨f1, hct, fun hq1 => ?_⟩
    have ht0 : t = 0 := by omega
    subst ht0
    exfalso
    have e1 : q % (n - 1) ^ n + 1 = (n - 1) ^ n := hlow
    unfold wM at hq hq1
    rw [Nat.mod_eq_of_lt hq] at e1
    omega
  · rw [mI_lt (by omega)] at c_8
    rw [mI_p (by omega)] at hl
    refine lv_aload_n hx hb dX6_step_11 rfl (lv_at hl 0 rfl) ?_
    refine fs_get E hP (k := k) (v := .ref (fa g (k + 1))) 1 fc6 hb0 (by omega) (by decide) (wm wl_4 (i := 6) rfl) rfl dX6_step_12 ?_
    refine lv_iload_n hx hb dX6_step_15 rfl (lv_at hl 1 rfl) ?_
    refine fs_pi (va_runSN (As := [.ref (fa g (k + 1)), .int (nI (t - 1))]) (rest := []) E.1 (c_X7_at l g N ct_1 (k + 1) 6 f1 (nI (t - 1)) (by omega) (by omega) hb1) (lk_RX6_23 E.1.2.2.2.2 (E.2.1.2.1 _ (List.mem_of_getElem? (i := 36) rfl)) ⟨Nat.le_of_ble_eq_true rfl, Nat.le_of_ble_eq_true rfl⟩) (fpreS E hP hS) rfl rfl hl.1 rfl (lv_room (Nat.le_of_ble_eq_true rfl)) dX6_step_16 ⟨Nat.zero_le _, Nat.zero_le _⟩) hS (fun r_16 locs p_16 hS => ?_)
    have hwt : f1 (t - 1) = nI (bxd (t - 1) (dgt (n - 1) q (n - t))) := by rw [hf1 _ (by omega), if_pos (by omega)]; unfold wd; rw [show n - 1 - (t - 1) = n - t by omega]
    have hdg := dgt_lt (B := n - 1) (by omega) q (n - t)
    have hbx := (bxd_lt (n := n) (p := t - 1) (by omega) hdg).1
    refine fs_vi (y := (nI (bxd (t - 1) (dgt (n - 1) q (n - t))))) (p_16.trans ((atF_in (by omega) (by omega)).trans hwt)) ?_
    refine lv_iconst (v := (nI 1)) hx hb dX6_step_19 (by decide) ?_
    refine lv_iadd hx hb dX6_step_20 ?_
    refine fs_vi (y := (nI ((bxd (t - 1) (dgt (n - 1) q (n - t))) + 1))) (nI_1 _) ?_
    refine lv_istore_n (lv' := [(2, .int (nI ((bxd (t - 1) (dgt (n - 1) q (n - t))) + 1))), (0, .ref (fa g k)), (1, .int (nI (t - 1)))]) hx hb dX6_step_21 rfl hl (by decide) rfl (fun ls hl => ?_)
    refine lv_iload_n hx hb dX6_step_22 rfl (lv_at hl 0 rfl) ?_
    refine lv_iload_n hx hb dX6_step_23 rfl (lv_at hl 2 rfl) ?_
    refine lv_icmp_ne (tgt := 30) hx hb dX6_step_24 (by decide) (fun c_24 => ?_) (fun c_24 => ?_)
    · rw [nI_eq (by omega) (by omega)] at c_24
      refine lv_iload_n hx hb dX6_step_30 rfl (lv_at hl 0 rfl) ?_
      refine lv_aload_n hx hb dX6_step_31 rfl (lv_at hl 1 rfl) ?_
      refine fs_get E hP (k := k) (v := .int (nI n)) 0 fc6 hb0 (by omega) (by decide) (wm wl_9 (i := 19) rfl) rfl dX6_step_32 ?_
      refine lv_icmp_ge (tgt := 48) hx hb dX6_step_35 (by decide) (fun c_35 => ?_) (fun c_35 => ?_)
      · rw [nI_leI (by omega) (by omega)] at c_35
        refine lv_aload_n hx hb dX6_step_48 rfl (lv_at hl 1 rfl) ?_
        refine fs_get E hP (k := k) (v := .ref (fa g (k + 1))) 1 fc6 hb0 (by omega) (by decide) (wm wl_4 (i := 6) rfl) rfl dX6_step_49 ?_
        refine lv_iload_n hx hb dX6_step_52 rfl (lv_at hl 2 rfl) ?_
        refine lv_iload_n hx hb dX6_step_53 rfl (lv_at hl 2 rfl) ?_
        refine fs_pi (va_runS (As := [.int (nI (t - 1))]) (rest := [.int (nI (t - 1)), .ref (fa g (k + 1))]) E.1 (c_X6_firstBoxFor l g N ct_1 (t - 1) (by omega)) (lk_RX6_19 E.1.2.2.2.2 ⟨Nat.le_of_ble_eq_true rfl, Nat.le_of_ble_eq_true rfl⟩) (fpreS E hP hS) rfl rfl hl.1 rfl (lv_room (Nat.le_of_ble_eq_true rfl)) dX6_step_54 ⟨Nat.zero_le _, Nat.zero_le _⟩) hS (fun r_54 locs p_54 hS => ?_)
        refine fs_vi (y := (nI (bxd (t - 1) 0))) p_54 ?_
        refine fs_v (va_runSN (As := [.ref (fa g (k + 1)), .int (nI (t - 1)), .int (nI (bxd (t - 1) 0))]) (rest := []) E.1 (c_X7_setAt l g N ct_1 (k + 1) 6 f1 (nI (t - 1)) (nI (bxd (t - 1) 0)) (by omega) (by omega) hb1) (lk_RX6_27 E.1.2.2.2.2 (E.2.1.2.1 _ (List.mem_of_getElem? (i := 37) rfl)) ⟨Nat.le_of_ble_eq_true rfl, Nat.le_of_ble_eq_true rfl⟩) (fpreS E hP hS) rfl rfl hl.1 rfl (lv_room (Nat.le_of_ble_eq_true rfl)) dX6_step_57 ⟨Nat.zero_le _, Nat.zero_le _⟩) hS (fun ct_2 H locs p_57 hP hS => ?_)
        rw [stF_in (by omega) (by omega)] at p_57
        have h_3 : ct_2 k = .inr (6, [.int (nI n), .ref (fa g (k + 1))]) := by rw [p_57]; exact (fu_ne (by omega)).trans hb0
        have h_4 : ct_2 (k + 1) = .inl (fcI g, 6, .inl (upd f1 (t - 1) (nI (bxd (t - 1) 0)))) := by rw [p_57]; exact fu_eq _ _ _
        refine lv_iinc (v := (mI (t - 1))) (lv' := [(1, .int (mI (t - 1))), (2, .int (nI ((bxd (t - 1) (dgt (n - 1) q (n - t))) + 1))), (0, .ref (fa g k))]) hx hb dX6_step_60 hl (k := 2) rfl (by rw [← mI_p (by omega)]; exact mI_d (by omega) (by omega)) (by decide) rfl (fun ls hl => ?_)
        refine lv_goto (tgt := 7) hx hb dX6_step_63 (by decide) ?_
        have hnx : ((bxd (t - 1) (dgt (n - 1) q (n - t))) + 1) = if (bxd (t - 1) (dgt (n - 1) q (n - t))) + 1 = t - 1 then (bxd (t - 1) (dgt (n - 1) q (n - t))) + 2 else (bxd (t - 1) (dgt (n - 1) q (n - t))) + 1 := by split <;> omega
        have hdl : ¬ dgt (n - 1) q (n - t) + 1 < n - 1 := fun hno => by
          have h7 := bxd_next (n := n) (p := t - 1) (by omega) hno
          have h8 := bxd_more (n := n) (p := t - 1) (by omega) hno
          omega
        have hcy := dgt_carry (B := n - 1) (by omega) hlow hdl
        exact ih (t - 1) _ _ ls _ (by (try dsimp only); omega) ⟨lv_sub hl [2, 0] rfl, by omega, by rw [show n - (t - 1) = n - t + 1 by omega]; exact hcy, ⟨_, by rw [p_57, hct, fu_fu], fun p9 hp9 => by
            by_cases z : p9 = t - 1
            · subst z; rw [upd_eq, if_neg (by omega), if_pos (by omega)]
            · rw [upd_ne z, hf1 _ hp9]
              by_cases z1 : p9 < t
              · rw [if_pos z1, if_pos (by omega)]
              · rw [if_neg z1, if_neg (show ¬ p9 < t - 1 by omega)]⟩⟩ hP hS
      · rw [nI_leI (by omega) (by omega)] at c_35
        refine lv_aload_n hx hb dX6_step_38 rfl (lv_at hl 1 rfl) ?_
        refine fs_get E hP (k := k) (v := .ref (fa g (k + 1))) 1 fc6 hb0 (by omega) (by decide) (wm wl_4 (i := 6) rfl) rfl dX6_step_39 ?_
        refine lv_iload_n hx hb dX6_step_42 rfl (lv_at hl 2 rfl) ?_
        refine lv_iload_n hx hb dX6_step_43 rfl (lv_at hl 0 rfl) ?_
        refine fs_v (va_runSN (As := [.ref (fa g (k + 1)), .int (nI (t - 1)), .int (nI ((bxd (t - 1) (dgt (n - 1) q (n - t))) + 1))]) (rest := []) E.1 (c_X7_setAt l g N ct_1 (k + 1) 6 f1 (nI (t - 1)) (nI ((bxd (t - 1) (dgt (n - 1) q (n - t))) + 1)) (by omega) (by omega) hb1) (lk_RX6_27 E.1.2.2.2.2 (E.2.1.2.1 _ (List.mem_of_getElem? (i := 37) rfl)) ⟨Nat.le_of_ble_eq_true rfl, Nat.le_of_ble_eq_true rfl⟩) (fpreS E hP hS) rfl rfl hl.1 rfl (lv_room (Nat.le_of_ble_eq_true rfl)) dX6_step_44 ⟨Nat.zero_le _, Nat.zero_le _⟩) hS (fun ct_5 H locs p_44 hP hS => ?_)
        rw [stF_in (by omega) (by omega)] at p_44
        have h_6 : ct_5 k = .inr (6, [.int (nI n), .ref (fa g (k + 1))]) := by rw [p_44]; exact (fu_ne (by omega)).trans hb0
        have h_7 : ct_5 (k + 1) = .inl (fcI g, 6, .inl (upd f1 (t - 1) (nI ((bxd (t - 1) (dgt (n - 1) q (n - t))) + 1)))) := by rw [p_44]; exact fu_eq _ _ _
        refine fs_vret E hr hlk hP hS dX6_step_47 ?_
        refine ⟨_, by rw [p_44, hct, fu_fu], fun hq1 p9 hp9 => ?_⟩
        have hnx : ((bxd (t - 1) (dgt (n - 1) q (n - t))) + 1) = if (bxd (t - 1) (dgt (n - 1) q (n - t))) + 1 = t - 1 then (bxd (t - 1) (dgt (n - 1) q (n - t))) + 2 else (bxd (t - 1) (dgt (n - 1) q (n - t))) + 1 := by split <;> omega
        have hdl : dgt (n - 1) q (n - t) + 1 < n - 1 := Decidable.byContradiction (fun hno => by have h8 := bxd_last (n := n) (p := t - 1) (by omega) hdg hno; omega)
        have hnx2 : ((bxd (t - 1) (dgt (n - 1) q (n - t))) + 1) = bxd (t - 1) (dgt (n - 1) q (n - t) + 1) := hnx.trans (bxd_next (n := n) (by omega) hdl)
        obtain ⟨s1, s2, s3⟩ := dgt_step (B := n - 1) (by omega) hlow hdl
        rcases Decidable.em (p9 = t - 1) with z | z
        · subst z
          rw [upd_eq, if_pos (by omega), hnx2]
          unfold wd; rw [show n - 1 - (t - 1) = n - t by omega, s2]
        · rw [upd_ne z, hf1 _ hp9]
          by_cases z1 : p9 < t
          · rw [if_pos z1, if_pos (by omega)]
            unfold wd; rw [s3 _ (by omega)]
          · rw [if_neg z1]
            by_cases z2 : p9 < n
            · rw [if_pos z2, if_pos z2]
              unfold wd; rw [s1 _ (by omega)]
            · rw [if_neg z2, if_neg z2]
    · rw [nI_eq (by omega) (by omega)] at c_24
      refine lv_iinc (v := (nI ((bxd (t - 1) (dgt (n - 1) q (n - t))) + 2))) (lv' := [(2, .int (nI ((bxd (t - 1) (dgt (n - 1) q (n - t))) + 2))), (0, .ref (fa g k)), (1, .int (nI (t - 1)))]) hx hb dX6_step_27 hl (k := 0) rfl (nI_1 _) (by decide) rfl (fun ls hl => ?_)
      refine lv_iload_n hx hb dX6_step_30 rfl (lv_at hl 0 rfl) ?_
      refine lv_aload_n hx hb dX6_step_31 rfl (lv_at hl 1 rfl) ?_
      refine fs_get E hP (k := k) (v := .int (nI n)) 0 fc6 hb0 (by omega) (by decide) (wm wl_9 (i := 19) rfl) rfl dX6_step_32 ?_
      refine lv_icmp_ge (tgt := 48) hx hb dX6_step_35 (by decide) (fun c_35 => ?_) (fun c_35 => ?_)
      · rw [nI_leI (by omega) (by omega)] at c_35
        refine lv_aload_n hx hb dX6_step_48 rfl (lv_at hl 1 rfl) ?_
        refine fs_get E hP (k := k) (v := .ref (fa g (k + 1))) 1 fc6 hb0 (by omega) (by decide) (wm wl_4 (i := 6) rfl) rfl dX6_step_49 ?_
        refine lv_iload_n hx hb dX6_step_52 rfl (lv_at hl 2 rfl) ?_
        refine lv_iload_n hx hb dX6_step_53 rfl (lv_at hl 2 rfl) ?_
        refine fs_pi (va_runS (As := [.int (nI (t - 1))]) (rest := [.int (nI (t - 1)), .ref (fa g (k + 1))]) E.1 (c_X6_firstBoxFor l g N ct_1 (t - 1) (by omega)) (lk_RX6_19 E.1.2.2.2.2 ⟨Nat.le_of_ble_eq_true rfl, Nat.le_of_ble_eq_true rfl⟩) (fpreS E hP hS) rfl rfl hl.1 rfl (lv_room (Nat.le_of_ble_eq_true rfl)) dX6_step_54 ⟨Nat.zero_le _, Nat.zero_le _⟩) hS (fun r_54 locs p_54 hS => ?_)
        refine fs_vi (y := (nI (bxd (t - 1) 0))) p_54 ?_
        refine fs_v (va_runSN (As := [.ref (fa g (k + 1)), .int (nI (t - 1)), .int (nI (bxd (t - 1) 0))]) (rest := []) E.1 (c_X7_setAt l g N ct_1 (k + 1) 6 f1 (nI (t - 1)) (nI (bxd (t - 1) 0)) (by omega) (by omega) hb1) (lk_RX6_27 E.1.2.2.2.2 (E.2.1.2.1 _ (List.mem_of_getElem? (i := 37) rfl)) ⟨Nat.le_of_ble_eq_true rfl, Nat.le_of_ble_eq_true rfl⟩) (fpreS E hP hS) rfl rfl hl.1 rfl (lv_room (Nat.le_of_ble_eq_true rfl)) dX6_step_57 ⟨Nat.zero_le _, Nat.zero_le _⟩) hS (fun ct_8 H locs p_57 hP hS => ?_)
        rw [stF_in (by omega) (by omega)] at p_57
        have h_9 : ct_8 k = .inr (6, [.int (nI n), .ref (fa g (k + 1))]) := by rw [p_57]; exact (fu_ne (by omega)).trans hb0
        have h_10 : ct_8 (k + 1) = .inl (fcI g, 6, .inl (upd f1 (t - 1) (nI (bxd (t - 1) 0)))) := by rw [p_57]; exact fu_eq _ _ _
        refine lv_iinc (v := (mI (t - 1))) (lv' := [(1, .int (mI (t - 1))), (2, .int (nI ((bxd (t - 1) (dgt (n - 1) q (n - t))) + 2))), (0, .ref (fa g k))]) hx hb dX6_step_60 hl (k := 2) rfl (by rw [← mI_p (by omega)]; exact mI_d (by omega) (by omega)) (by decide) rfl (fun ls hl => ?_)
        refine lv_goto (tgt := 7) hx hb dX6_step_63 (by decide) ?_
        have hnx : ((bxd (t - 1) (dgt (n - 1) q (n - t))) + 2) = if (bxd (t - 1) (dgt (n - 1) q (n - t))) + 1 = t - 1 then (bxd (t - 1) (dgt (n - 1) q (n - t))) + 2 else (bxd (t - 1) (dgt (n - 1) q (n - t))) + 1 := by split <;> omega
        have hdl : ¬ dgt (n - 1) q (n - t) + 1 < n - 1 := fun hno => by
          have h7 := bxd_next (n := n) (p := t - 1) (by omega) hno
          have h8 := bxd_more (n := n) (p := t - 1) (by omega) hno
          omega
        have hcy := dgt_carry (B := n - 1) (by omega) hlow hdl
        exact ih (t - 1) _ _ ls _ (by (try dsimp only); omega) ⟨lv_sub hl [2, 0] rfl, by omega, by rw [show n - (t - 1) = n - t + 1 by omega]; exact hcy, ⟨_, by rw [p_57, hct, fu_fu], fun p9 hp9 => by
            by_cases z : p9 = t - 1
            · subst z; rw [upd_eq, if_neg (by omega), if_pos (by omega)]
            · rw [upd_ne z, hf1 _ hp9]
              by_cases z1 : p9 < t
              · rw [if_pos z1, if_pos (by omega)]
              · rw [if_neg z1, if_neg (show ¬ p9 < t - 1 by omega)]⟩⟩ hP hS
      · rw [nI_leI (by omega) (by omega)] at c_35
        refine lv_aload_n hx hb dX6_step_38 rfl (lv_at hl 1 rfl) ?_
        refine fs_get E hP (k := k) (v := .ref (fa g (k + 1))) 1 fc6 hb0 (by omega) (by decide) (wm wl_4 (i := 6) rfl) rfl dX6_step_39 ?_
        refine lv_iload_n hx hb dX6_step_42 rfl (lv_at hl 2 rfl) ?_
        refine lv_iload_n hx hb dX6_step_43 rfl (lv_at hl 0 rfl) ?_
        refine fs_v (va_runSN (As := [.ref (fa g (k + 1)), .int (nI (t - 1)), .int (nI ((bxd (t - 1) (dgt (n - 1) q (n - t))) + 2))]) (rest := []) E.1 (c_X7_setAt l g N ct_1 (k + 1) 6 f1 (nI (t - 1)) (nI ((bxd (t - 1) (dgt (n - 1) q (n - t))) + 2)) (by omega) (by omega) hb1) (lk_RX6_27 E.1.2.2.2.2 (E.2.1.2.1 _ (List.mem_of_getElem? (i := 37) rfl)) ⟨Nat.le_of_ble_eq_true rfl, Nat.le_of_ble_eq_true rfl⟩) (fpreS E hP hS) rfl rfl hl.1 rfl (lv_room (Nat.le_of_ble_eq_true rfl)) dX6_step_44 ⟨Nat.zero_le _, Nat.zero_le _⟩) hS (fun ct_11 H locs p_44 hP hS => ?_)
        rw [stF_in (by omega) (by omega)] at p_44
        have h_12 : ct_11 k = .inr (6, [.int (nI n), .ref (fa g (k + 1))]) := by rw [p_44]; exact (fu_ne (by omega)).trans hb0
        have h_13 : ct_11 (k + 1) = .inl (fcI g, 6, .inl (upd f1 (t - 1) (nI ((bxd (t - 1) (dgt (n - 1) q (n - t))) + 2)))) := by rw [p_44]; exact fu_eq _ _ _
        refine fs_vret E hr hlk hP hS dX6_step_47 ?_
        refine ⟨_, by rw [p_44, hct, fu_fu], fun hq1 p9 hp9 => ?_⟩
        have hnx : ((bxd (t - 1) (dgt (n - 1) q (n - t))) + 2) = if (bxd (t - 1) (dgt (n - 1) q (n - t))) + 1 = t - 1 then (bxd (t - 1) (dgt (n - 1) q (n - t))) + 2 else (bxd (t - 1) (dgt (n - 1) q (n - t))) + 1 := by split <;> omega
        have hdl : dgt (n - 1) q (n - t) + 1 < n - 1 := Decidable.byContradiction (fun hno => by have h8 := bxd_last (n := n) (p := t - 1) (by omega) hdg hno; omega)
        have hnx2 : ((bxd (t - 1) (dgt (n - 1) q (n - t))) + 2) = bxd (t - 1) (dgt (n - 1) q (n - t) + 1) := hnx.trans (bxd_next (n := n) (by omega) hdl)
        obtain ⟨s1, s2, s3⟩ := dgt_step (B := n - 1) (by omega) hlow hdl
        rcases Decidable.em (p9 = t - 1) with z | z
        · subst z
          rw [upd_eq, if_pos (by omega), hnx2]
          unfold wd; rw [show n - 1 - (t - 1) = n - t by omega, s2]
        · rw [upd_ne z, hf1 _ hp9]
          by_cases z1 : p9 < t
          · rw [if_pos z1, if_pos (by omega)]
            unfold wd; rw [s3 _ (by omega)]
          · rw [if_neg z1]
            by_cases z2 : p9 < n
            · rw [if_pos z2, if_pos z2]
              unfold wd; rw [s1 _ (by omega)]
            · rw [if_neg z2, if_neg z2]
