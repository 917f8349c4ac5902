theorem wd_div {n q t : Nat} (ht : 0 < t) (hn : t ≤ n) : q / (n - 1) ^ (n - t) / (n - 1) = q / (n - 1) ^ (n - (t - 1)) := by
  rw [Nat.div_div_eq_div_mul, show n - (t - 1) = (n - t) + 1 by omega, Nat.pow_succ]
theorem wd_lo {n q t : Nat} (ht : 0 < t) (hn : t ≤ n) (h : q / (n - 1) ^ (n - t) % (n - 1) < t - 1) : q / (n - 1) ^ (n - t) % (n - 1) = wd n q (t - 1) := by
  unfold wd bxd dgt; rw [show n - 1 - (t - 1) = n - t by omega, if_pos h]
theorem wd_hi {n q t : Nat} (ht : 0 < t) (hn : t ≤ n) (h : ¬ q / (n - 1) ^ (n - t) % (n - 1) < t - 1) : q / (n - 1) ^ (n - t) % (n - 1) + 1 = wd n q (t - 1) := by
  unfold wd bxd dgt; rw [show n - 1 - (t - 1) = n - t by omega, if_neg h]
def mkz (a0 a1 a2 a3 a4 a5 a6 a7 a8 a9 : Int32) : Nat → Int32 := fun i => match i with
  | 0 => a0 | 1 => a1 | 2 => a2 | 3 => a3 | 4 => a4 | 5 => a5 | 6 => a6 | 7 => a7 | 8 => a8 | _ => a9
def mkF (f0 f1 f2 f3 f4 f5 f6 f7 f8 : Nat → Int32) : Nat → Nat → Int32 := fun i => match i with
  | 0 => f0 | 1 => f1 | 2 => f2 | 3 => f3 | 4 => f4 | 5 => f5 | 6 => f6 | 7 => f7 | _ => f8
/-- who is watched by most, as the reference keeps it -/
def MW (s : Nat × Nat) (a b : Int32) : Prop := (s.2 = 0 → s.1 = 0 ∧ a = -6 ∧ b = nI 0) ∧ (s.2 ≠ 0 → a = nI s.1 ∧ b = nI s.2)
/-- the numbers over the first q worlds -/
def CNT (σ : Nat → Int32) (q : Nat) (z : Nat → Int32) (F : Nat → Nat → Int32) : Prop := z 2 = nI (cN (okq σ) q) ∧ (∀ p b, p < nB σ → b < 6 → F 6 (6 * p + b) = nI (cN (lkq σ p b) q)) ∧ (∀ r, r < nT σ → F 7 r = nI (cN (hdq σ r) q)) ∧ (∀ r, r < nT σ → F 8 r = nI (cN (onq σ r) q)) ∧ MW (mwQ σ q) (z 3) (z 4)
abbrev KZ (z z1 : Nat → Int32) : Prop := ∀ i, (i < 2 ∨ 5 ≤ i) → i < 10 → z1 i = z i
abbrev KF (F F1 : Nat → Nat → Int32) : Prop := ∀ i, i < 5 → F1 i = F i

set_option maxRecDepth 100000 in
set_option maxHeartbeats 4000000 in
theorem c_X8_takeWorld (l : Launch) (g : fG) (N : Nat) (ct : Nat → va_E) (z : Nat → Int32) (F : Nat → Nat → Int32) (σ : Nat → Int32) (hN : 249 ≤ N) (hG : Good σ) (hM : MA g ct z F) (hT : SR σ F) (q : Nat) (hq : q < 1000000) : Met l yX8_takeWorld (wsU yX8_takeWorld cX8_takeWorld 5 none) rX8_takeWorld (fPre g N ct [.ref (fa g 239), .int (nI q)]) (fQv g N (fun ct1 => ∃ f : Nat → Int32, ct1 = fu ct 245 (.inl (fcI g, 6, .inl f)) ∧ ∀ p, p < nB σ → f p = nI (wd (nB σ) q p))) 0 0 (fB g) := by
  refine fs_start (own := RX8) (lv0 := [(0, .ref (fa g 239)), (1, .int (nI q))]) (by decide) rfl (Nat.le_of_ble_eq_true rfl) rfl ?_
  intro p e s m args below meth c ls E hr hlk hnm hP hl hS
  have hx := E.1.1
  have hb := E.1.2.1
  have m_1o : ct 239 = .inr (8, [.ref (fa g 240), .ref (fa g 241), .int (z 0), .ref (fa g 242), .ref (fa g 243), .ref (fa g 244), .int (z 1), .ref (fa g 245), .int (z 2), .ref (fa g 246), .ref (fa g 247), .ref (fa g 248), .int (z 3), .int (z 4), .int (z 5), .int (z 6), .int (z 7), .int (z 8), .int (z 9)]) := (hM).1
  have m_1r0 : ct 240 = .inl (fcI g, 121, .inl (F 0)) := (hM).2.1
  have m_1r1 : ct 241 = .inl (fcI g, 726, .inl (F 1)) := (hM).2.2.1
  have m_1r2 : ct 242 = .inl (fcI g, 242, .inl (F 2)) := (hM).2.2.2.1
  have m_1r3 : ct 243 = .inl (fcI g, 2, .inl (F 3)) := (hM).2.2.2.2.1
  have m_1r4 : ct 244 = .inl (fcI g, 60, .inl (F 4)) := (hM).2.2.2.2.2.1
  have m_1r5 : ct 245 = .inl (fcI g, 6, .inl (F 5)) := (hM).2.2.2.2.2.2.1
  have m_1r6 : ct 246 = .inl (fcI g, 36, .inl (F 6)) := (hM).2.2.2.2.2.2.2.1
  have m_1r7 : ct 247 = .inl (fcI g, 20, .inl (F 7)) := (hM).2.2.2.2.2.2.2.2.1
  have m_1r8 : ct 248 = .inl (fcI g, 20, .inl (F 8)) := (hM).2.2.2.2.2.2.2.2.2
  have hn3 := hG.n3
  have hn6 := hG.n6
  have hk20 := hG.k
  refine lv_iload_n hx hb dX8_takeWorld_0 rfl (lv_at hl 1 rfl) ?_
  refine fs_vi (y := (nI (q / (nB σ - 1) ^ (nB σ - nB σ)))) (by rw [Nat.sub_self, Nat.pow_zero, Nat.div_one]) ?_
  refine lv_istore_n (lv' := [(2, .int (nI (q / (nB σ - 1) ^ (nB σ - nB σ)))), (0, .ref (fa g 239)), (1, .int (nI q))]) hx hb dX8_takeWorld_1 rfl hl (by decide) rfl (fun ls hl => ?_)
  refine lv_aload_n hx hb dX8_takeWorld_2 rfl (lv_at hl 1 rfl) ?_
  refine fs_get E hP (k := 239) (v := .ref (fa g 240)) 0 fc8 m_1o (by omega) (by decide) (wm wl_5 (i := 0) rfl) rfl dX8_takeWorld_3 ?_
  refine lv_iconst (v := (nI 0)) hx hb dX8_takeWorld_6 (by decide) ?_
  refine fs_iald E hP (k := 240) m_1r0 (by omega) (vp_in_nI (by omega) (by omega)) dX8_takeWorld_7 ?_
  refine fs_vi (y := (F 0) 0) (congrArg (F 0) (nI_clamp (by omega))) ?_
  refine fs_vi (y := (nI (nB σ))) (hT.n hG) ?_
  refine lv_iconst (v := (nI 1)) hx hb dX8_takeWorld_8 (by decide) ?_
  refine lv_isub hx hb dX8_takeWorld_9 ?_
  refine fs_vi (y := (mI (nB σ))) (mI_sub0 _) ?_
  refine lv_istore_n (lv' := [(3, .int (mI (nB σ))), (2, .int (nI (q / (nB σ - 1) ^ (nB σ - nB σ)))), (0, .ref (fa g 239)), (1, .int (nI q))]) hx hb dX8_takeWorld_10 rfl hl (by decide) rfl (fun ls hl => ?_)
  refine fs_ind (g := g) (N := N) (St := Nat) (fun (t : Nat) (ct_2 : Nat → va_E) (ls : Array Slot) => lv_has ls 5 [(0, .ref (fa g 239)), (1, .int (nI q)), (2, .int (nI (q / (nB σ - 1) ^ (nB σ - t)))), (3, .int (mI t))] ∧ ∃ fx : Nat → Int32, ct_2 = fu ct 245 (.inl (fcI g, 6, .inl fx)) ∧ t ≤ nB σ ∧ ∀ p, t ≤ p → p < nB σ → fx p = nI (wd (nB σ) q p)) (fun t => t) ?_ (nB σ) _ _ ls _ ⟨lv_sub hl [2, 3, 1, 0] rfl, ⟨_, by rw [fu_same m_1r5], Nat.le_refl _, fun p h1 h2 => absurd h1 (by omega)⟩⟩ hP hS
  clear hl hP hS
  intro st ct_2 H ls locs hI hP hS ih
  obtain ⟨t, rfl⟩ : ∃ z, z = st := ⟨_, rfl⟩
  obtain ⟨hl, fx, hct, hI⟩ := hI
  have h_3 : ct_2 239 = .inr (8, [.ref (fa g 240), .ref (fa g 241), .int (z 0), .ref (fa g 242), .ref (fa g 243), .ref (fa g 244), .int (z 1), .ref (fa g 245), .int (z 2), .ref (fa g 246), .ref (fa g 247), .ref (fa g 248), .int (z 3), .int (z 4), .int (z 5), .int (z 6), .int (z 7), .int (z 8), .int (z 9)]) := by rw [hct]; exact (fu_ne (by omega)).trans m_1o
  have h_4 : ct_2 240 = .inl (fcI g, 121, .inl (F 0)) := by rw [hct]; exact (fu_ne (by omega)).trans m_1r0
  have h_5 : ct_2 241 = .inl (fcI g, 726, .inl (F 1)) := by rw [hct]; exact (fu_ne (by omega)).trans m_1r1
  have h_6 : ct_2 242 = .inl (fcI g, 242, .inl (F 2)) := by rw [hct]; exact (fu_ne (by omega)).trans m_1r2
  have h_7 : ct_2 243 = .inl (fcI g, 2, .inl (F 3)) := by rw [hct]; exact (fu_ne (by omega)).trans m_1r3
  have h_8 : ct_2 244 = .inl (fcI g, 60, .inl (F 4)) := by rw [hct]; exact (fu_ne (by omega)).trans m_1r4
  have h_9 : ct_2 245 = .inl (fcI g, 6, .inl fx) := by rw [hct]; exact fu_eq _ _ _
  have h_10 : ct_2 246 = .inl (fcI g, 36, .inl (F 6)) := by rw [hct]; exact (fu_ne (by omega)).trans m_1r6
  have h_11 : ct_2 247 = .inl (fcI g, 20, .inl (F 7)) := by rw [hct]; exact (fu_ne (by omega)).trans m_1r7
  have h_12 : ct_2 248 = .inl (fcI g, 20, .inl (F 8)) := by rw [hct]; exact (fu_ne (by omega)).trans m_1r8
  have hI1 := hI.1
  refine lv_iload_n hx hb dX8_takeWorld_11 rfl (lv_at hl 3 rfl) ?_
  refine lv_if_lt (tgt := 65) hx hb dX8_takeWorld_12 (by decide) (fun c_12 => ?_) (fun c_12 => ?_)
  · rw [mI_lt (by omega)] at c_12
    refine fs_vret E hr hlk hP hS dX8_takeWorld_65 ?_
    exact ⟨fx, hct, fun p hp => hI.2 p (by omega) hp⟩
  · rw [mI_lt (by omega)] at c_12
    have hdl := Nat.mod_lt (q / (nB σ - 1) ^ (nB σ - t)) (show 0 < nB σ - 1 by omega)
    have hql := Nat.div_le_self q ((nB σ - 1) ^ (nB σ - t))
    have hmi : mI t = nI (t - 1) := mI_p (by omega)
    rw [hmi] at hl
    have hnz : ¬ nI (nB σ - 1) = 0 := fun z => by rw [fz_eqN (by omega)] at z; omega
    refine lv_iload_n hx hb dX8_takeWorld_15 rfl (lv_at hl 2 rfl) ?_
    refine lv_aload_n hx hb dX8_takeWorld_16 rfl (lv_at hl 0 rfl) ?_
    refine fs_get E hP (k := 239) (v := .ref (fa g 240)) 0 fc8 h_3 (by omega) (by decide) (wm wl_5 (i := 0) rfl) rfl dX8_takeWorld_17 ?_
    refine lv_iconst (v := (nI 0)) hx hb dX8_takeWorld_20 (by decide) ?_
    refine fs_iald E hP (k := 240) h_4 (by omega) (vp_in_nI (by omega) (by omega)) dX8_takeWorld_21 ?_
    refine fs_vi (y := (F 0) 0) (congrArg (F 0) (nI_clamp (by omega))) ?_
    refine fs_vi (y := (nI (nB σ))) (hT.n hG) ?_
    refine lv_iconst (v := (nI 1)) hx hb dX8_takeWorld_22 (by decide) ?_
    refine lv_isub hx hb dX8_takeWorld_23 ?_
    refine fs_vi (y := (nI (nB σ - 1))) (pk_sub (by omega)) ?_
    refine lv_irem hx hb dX8_takeWorld_24 hnz ?_
    refine fs_vi (y := (nI ((q / (nB σ - 1) ^ (nB σ - t)) % (nB σ - 1)))) (frem (by omega) (by omega) (by omega)) ?_
    refine lv_istore (lv' := [(4, .int (nI ((q / (nB σ - 1) ^ (nB σ - t)) % (nB σ - 1)))), (0, .ref (fa g 239)), (1, .int (nI q)), (2, .int (nI (q / (nB σ - 1) ^ (nB σ - t)))), (3, .int (nI (t - 1)))]) hx hb dX8_takeWorld_25 hl (by decide) rfl (fun ls hl => ?_)
    refine lv_iload_n hx hb dX8_takeWorld_27 rfl (lv_at hl 3 rfl) ?_
    refine lv_aload_n hx hb dX8_takeWorld_28 rfl (lv_at hl 1 rfl) ?_
    refine fs_get E hP (k := 239) (v := .ref (fa g 240)) 0 fc8 h_3 (by omega) (by decide) (wm wl_5 (i := 0) rfl) rfl dX8_takeWorld_29 ?_
    refine lv_iconst (v := (nI 0)) hx hb dX8_takeWorld_32 (by decide) ?_
    refine fs_iald E hP (k := 240) h_4 (by omega) (vp_in_nI (by omega) (by omega)) dX8_takeWorld_33 ?_
    refine fs_vi (y := (F 0) 0) (congrArg (F 0) (nI_clamp (by omega))) ?_
    refine fs_vi (y := (nI (nB σ))) (hT.n hG) ?_
    refine lv_iconst (v := (nI 1)) hx hb dX8_takeWorld_34 (by decide) ?_
    refine lv_isub hx hb dX8_takeWorld_35 ?_
    refine fs_vi (y := (nI (nB σ - 1))) (pk_sub (by omega)) ?_
    refine lv_idiv hx hb dX8_takeWorld_36 hnz ?_
    refine fs_vi (y := (nI (q / (nB σ - 1) ^ (nB σ - (t - 1))))) ((pk_div (by omega) (by omega) (by omega)).trans (congrArg nI (wd_div (by omega) hI1))) ?_
    refine lv_istore_n (lv' := [(2, .int (nI (q / (nB σ - 1) ^ (nB σ - (t - 1))))), (4, .int (nI ((q / (nB σ - 1) ^ (nB σ - t)) % (nB σ - 1)))), (0, .ref (fa g 239)), (1, .int (nI q)), (3, .int (nI (t - 1)))]) hx hb dX8_takeWorld_37 rfl hl (by decide) rfl (fun ls hl => ?_)
    refine lv_aload_n hx hb dX8_takeWorld_38 rfl (lv_at hl 2 rfl) ?_
    refine fs_get E hP (k := 239) (v := .ref (fa g 245)) 7 fc8 h_3 (by omega) (by decide) (wm wl_5 (i := 5) rfl) rfl dX8_takeWorld_39 ?_
    refine lv_iload_n hx hb dX8_takeWorld_42 rfl (lv_at hl 4 rfl) ?_
    refine lv_iload hx hb dX8_takeWorld_43 (lv_at hl 1 rfl) ?_
    refine lv_iload_n hx hb dX8_takeWorld_45 rfl (lv_at hl 4 rfl) ?_
    refine lv_icmp_ge (tgt := 54) hx hb dX8_takeWorld_46 (by decide) (fun c_46 => ?_) (fun c_46 => ?_)
    · rw [nI_leI (by omega) (by omega)] at c_46
      refine lv_iload hx hb dX8_takeWorld_54 (lv_at hl 1 rfl) ?_
      refine lv_iconst (v := (nI 1)) hx hb dX8_takeWorld_56 (by decide) ?_
      refine lv_iadd hx hb dX8_takeWorld_57 ?_
      refine fs_vi (y := nI (wd (nB σ) q (t - 1))) ((nI_1 _).trans (congrArg nI (wd_hi (by omega) hI1 (by omega)))) ?_
      refine fs_iast E hP hS (k := 245) h_9 (by omega) (vp_in_nI (by omega) (by omega)) dX8_takeWorld_58 (fun ct_13 H locs q_14 hP hS => ?_)
      rw [nI_clamp (by omega)] at q_14
      have h_15 : ct_13 239 = .inr (8, [.ref (fa g 240), .ref (fa g 241), .int (z 0), .ref (fa g 242), .ref (fa g 243), .ref (fa g 244), .int (z 1), .ref (fa g 245), .int (z 2), .ref (fa g 246), .ref (fa g 247), .ref (fa g 248), .int (z 3), .int (z 4), .int (z 5), .int (z 6), .int (z 7), .int (z 8), .int (z 9)]) := by rw [q_14]; exact (fu_ne (by omega)).trans h_3
      have h_16 : ct_13 240 = .inl (fcI g, 121, .inl (F 0)) := by rw [q_14]; exact (fu_ne (by omega)).trans h_4
      have h_17 : ct_13 241 = .inl (fcI g, 726, .inl (F 1)) := by rw [q_14]; exact (fu_ne (by omega)).trans h_5
      have h_18 : ct_13 242 = .inl (fcI g, 242, .inl (F 2)) := by rw [q_14]; exact (fu_ne (by omega)).trans h_6
      have h_19 : ct_13 243 = .inl (fcI g, 2, .inl (F 3)) := by rw [q_14]; exact (fu_ne (by omega)).trans h_7
      have h_20 : ct_13 244 = .inl (fcI g, 60, .inl (F 4)) := by rw [q_14]; exact (fu_ne (by omega)).trans h_8
      have h_21 : ct_13 245 = .inl (fcI g, 6, .inl (upd fx (t - 1) (nI (wd (nB σ) q (t - 1))))) := by rw [q_14]; exact fu_eq _ _ _
      have h_22 : ct_13 246 = .inl (fcI g, 36, .inl (F 6)) := by rw [q_14]; exact (fu_ne (by omega)).trans h_10
      have h_23 : ct_13 247 = .inl (fcI g, 20, .inl (F 7)) := by rw [q_14]; exact (fu_ne (by omega)).trans h_11
      have h_24 : ct_13 248 = .inl (fcI g, 20, .inl (F 8)) := by rw [q_14]; exact (fu_ne (by omega)).trans h_12
      refine lv_iinc (v := (mI (t - 1))) (lv' := [(3, .int (mI (t - 1))), (2, .int (nI (q / (nB σ - 1) ^ (nB σ - (t - 1))))), (4, .int (nI ((q / (nB σ - 1) ^ (nB σ - t)) % (nB σ - 1)))), (0, .ref (fa g 239)), (1, .int (nI q))]) hx hb dX8_takeWorld_59 hl (k := 4) rfl ((congrArg (fun y => y + (-1)) hmi.symm).trans (mI_d (by omega) (by omega))) (by decide) rfl (fun ls hl => ?_)
      refine lv_goto (tgt := 11) hx hb dX8_takeWorld_62 (by decide) ?_
      exact ih (t - 1) _ _ ls _ (by omega) ⟨lv_sub hl [3, 4, 1, 0] rfl, ⟨_, by rw [q_14, hct, fu_fu], by omega, fun p h1 h2 => if z : p = t - 1 then (by rw [z]; exact upd_eq _ _ _) else (upd_ne z).trans (hI.2 p (by omega) h2)⟩⟩ hP hS
    · rw [nI_leI (by omega) (by omega)] at c_46
      refine lv_iload hx hb dX8_takeWorld_49 (lv_at hl 1 rfl) ?_
      refine lv_goto (tgt := 58) hx hb dX8_takeWorld_51 (by decide) ?_
      refine fs_vi (y := nI (wd (nB σ) q (t - 1))) (congrArg nI (wd_lo (by omega) hI1 (by omega))) ?_
      refine fs_iast E hP hS (k := 245) h_9 (by omega) (vp_in_nI (by omega) (by omega)) dX8_takeWorld_58 (fun ct_25 H locs q_26 hP hS => ?_)
      rw [nI_clamp (by omega)] at q_26
      have h_27 : ct_25 239 = .inr (8, [.ref (fa g 240), .ref (fa g 241), .int (z 0), .ref (fa g 242), .ref (fa g 243), .ref (fa g 244), .int (z 1), .ref (fa g 245), .int (z 2), .ref (fa g 246), .ref (fa g 247), .ref (fa g 248), .int (z 3), .int (z 4), .int (z 5), .int (z 6), .int (z 7), .int (z 8), .int (z 9)]) := by rw [q_26]; exact (fu_ne (by omega)).trans h_3
      have h_28 : ct_25 240 = .inl (fcI g, 121, .inl (F 0)) := by rw [q_26]; exact (fu_ne (by omega)).trans h_4
      have h_29 : ct_25 241 = .inl (fcI g, 726, .inl (F 1)) := by rw [q_26]; exact (fu_ne (by omega)).trans h_5
      have h_30 : ct_25 242 = .inl (fcI g, 242, .inl (F 2)) := by rw [q_26]; exact (fu_ne (by omega)).trans h_6
      have h_31 : ct_25 243 = .inl (fcI g, 2, .inl (F 3)) := by rw [q_26]; exact (fu_ne (by omega)).trans h_7
      have h_32 : ct_25 244 = .inl (fcI g, 60, .inl (F 4)) := by rw [q_26]; exact (fu_ne (by omega)).trans h_8
      have h_33 : ct_25 245 = .inl (fcI g, 6, .inl (upd fx (t - 1) (nI (wd (nB σ) q (t - 1))))) := by rw [q_26]; exact fu_eq _ _ _
      have h_34 : ct_25 246 = .inl (fcI g, 36, .inl (F 6)) := by rw [q_26]; exact (fu_ne (by omega)).trans h_10
      have h_35 : ct_25 247 = .inl (fcI g, 20, .inl (F 7)) := by rw [q_26]; exact (fu_ne (by omega)).trans h_11
      have h_36 : ct_25 248 = .inl (fcI g, 20, .inl (F 8)) := by rw [q_26]; exact (fu_ne (by omega)).trans h_12
      refine lv_iinc (v := (mI (t - 1))) (lv' := [(3, .int (mI (t - 1))), (2, .int (nI (q / (nB σ - 1) ^ (nB σ - (t - 1))))), (4, .int (nI ((q / (nB σ - 1) ^ (nB σ - t)) % (nB σ - 1)))), (0, .ref (fa g 239)), (1, .int (nI q))]) hx hb dX8_takeWorld_59 hl (k := 4) rfl ((congrArg (fun y => y + (-1)) hmi.symm).trans (mI_d (by omega) (by omega))) (by decide) rfl (fun ls hl => ?_)
      refine lv_goto (tgt := 11) hx hb dX8_takeWorld_62 (by decide) ?_
      exact ih (t - 1) _ _ ls _ (by omega) ⟨lv_sub hl [3, 4, 1, 0] rfl, ⟨_, by rw [q_26, hct, fu_fu], by omega, fun p h1 h2 => if z : p = t - 1 then (by rw [z]; exact upd_eq _ _ _) else (upd_ne z).trans (hI.2 p (by omega) h2)⟩⟩ hP hS

set_option maxRecDepth 100000 in
set_option maxHeartbeats 4000000 in
theorem c_X8_wrongOne (l : Launch) (g : fG) (N : Nat) (ct : Nat → va_E) (z : Nat → Int32) (F : Nat → Nat → Int32) (σ : Nat → Int32) (hN : 249 ≤ N) (hG : Good σ) (hM : MA g ct z F) (hT : SR σ F) (w : Nat → Nat) (hw : Wok (nB σ) w) (hW : WR σ w F) : Met l yX8_wrongOne (wsU yX8_wrongOne cX8_wrongOne 4 (some .int)) rX8_wrongOne (fPre g N ct [.ref (fa g 239)]) (fQpi (fun r => r = wrI σ w (nT σ))) 0 0 (fB g) := by
  refine fs_start (own := RX8) (lv0 := [(0, .ref (fa g 239))]) (by decide) rfl (Nat.le_of_ble_eq_true rfl) rfl ?_
  intro p e s m args below meth c ls E hr hlk hnm hP hl hS
  have hx := E.1.1
  have hb := E.1.2.1
  have m_1o : ct 239 = .inr (8, [.ref (fa g 240), .ref (fa g 241), .int (z 0), .ref (fa g 242), .ref (fa g 243), .ref (fa g 244), .int (z 1), .ref (fa g 245), .int (z 2), .ref (fa g 246), .ref (fa g 247), .ref (fa g 248), .int (z 3), .int (z 4), .int (z 5), .int (z 6), .int (z 7), .int (z 8), .int (z 9)]) := (hM).1
  have m_1r0 : ct 240 = .inl (fcI g, 121, .inl (F 0)) := (hM).2.1
  have m_1r1 : ct 241 = .inl (fcI g, 726, .inl (F 1)) := (hM).2.2.1
  have m_1r2 : ct 242 = .inl (fcI g, 242, .inl (F 2)) := (hM).2.2.2.1
  have m_1r3 : ct 243 = .inl (fcI g, 2, .inl (F 3)) := (hM).2.2.2.2.1
  have m_1r4 : ct 244 = .inl (fcI g, 60, .inl (F 4)) := (hM).2.2.2.2.2.1
  have m_1r5 : ct 245 = .inl (fcI g, 6, .inl (F 5)) := (hM).2.2.2.2.2.2.1
  have m_1r6 : ct 246 = .inl (fcI g, 36, .inl (F 6)) := (hM).2.2.2.2.2.2.2.1
  have m_1r7 : ct 247 = .inl (fcI g, 20, .inl (F 7)) := (hM).2.2.2.2.2.2.2.2.1
  have m_1r8 : ct 248 = .inl (fcI g, 20, .inl (F 8)) := (hM).2.2.2.2.2.2.2.2.2
  have hn3 := hG.n3
  have hn6 := hG.n6
  have hk20 := hG.k
  refine lv_bipush (v := (-6)) hx hb dX8_wrongOne_0 (by decide) ?_
  refine lv_istore_n (lv' := [(1, .int (-6)), (0, .ref (fa g 239))]) hx hb dX8_wrongOne_2 rfl hl (by decide) rfl (fun ls hl => ?_)
  refine lv_iconst (v := (nI 0)) hx hb dX8_wrongOne_3 (by decide) ?_
  refine lv_istore_n (lv' := [(2, .int (nI 0)), (1, .int (-6)), (0, .ref (fa g 239))]) hx hb dX8_wrongOne_4 rfl hl (by decide) rfl (fun ls hl => ?_)
  refine fs_indP (g := g) (St := Nat) (fun (i : Nat) (ls : Array Slot) => lv_has ls 4 [(0, .ref (fa g 239)), (1, .int (wrI σ w i)), (2, .int (nI i))] ∧ i ≤ nT σ) (fun (i : Nat) => nT σ - i) ?_ 0 ls _ ⟨lv_sub hl [2, 1, 0] rfl, Nat.zero_le _⟩ hS
  clear hl hS
  intro st ls locs hI hS ih
  obtain ⟨i, rfl⟩ : ∃ z, z = st := ⟨_, rfl⟩
  obtain ⟨hl, hI⟩ := hI
  have hI0 := hI
  refine lv_iload_n hx hb dX8_wrongOne_5 rfl (lv_at hl 2 rfl) ?_
  refine lv_aload_n hx hb dX8_wrongOne_6 rfl (lv_at hl 0 rfl) ?_
  refine fs_get E hP (k := 239) (v := .ref (fa g 240)) 0 fc8 m_1o (by omega) (by decide) (wm wl_5 (i := 0) rfl) rfl dX8_wrongOne_7 ?_
  refine lv_iconst (v := (nI 1)) hx hb dX8_wrongOne_10 (by decide) ?_
  refine fs_iald E hP (k := 240) m_1r0 (by omega) (vp_in_nI (by omega) (by omega)) dX8_wrongOne_11 ?_
  refine fs_vi (y := (F 0) 1) (congrArg (F 0) (nI_clamp (by omega))) ?_
  refine fs_vi (y := (nI (nT σ))) (hT.k hG) ?_
  refine lv_icmp_ge (tgt := 79) hx hb dX8_wrongOne_12 (by decide) (fun c_12 => ?_) (fun c_12 => ?_)
  · rw [nI_leI (by omega) (by omega)] at c_12
    refine lv_iload_n hx hb dX8_wrongOne_79 rfl (lv_at hl 1 rfl) ?_
    refine fs_piret E hr hlk hS dX8_wrongOne_80 ?_
    rw [show nT σ = i by omega]
  · rw [nI_leI (by omega) (by omega)] at c_12
    refine lv_aload_n hx hb dX8_wrongOne_15 rfl (lv_at hl 0 rfl) ?_
    refine lv_iload_n hx hb dX8_wrongOne_16 rfl (lv_at hl 2 rfl) ?_
    refine fs_pi (va_runV (As := [.int (nI i)]) (rest := []) E.1 (c_X8_isOpen l g N ct z F σ (by omega) hG hM hT i (by omega)) (lk_RX8_74 E.1.2.2.2.2 ⟨Nat.le_of_ble_eq_true rfl, Nat.le_of_ble_eq_true rfl⟩) (fpreV E hP hS fc8 m_1o (by omega)) rfl rfl hl.1 rfl (lv_room (Nat.le_of_ble_eq_true rfl)) dX8_wrongOne_17 ⟨Nat.zero_le _, Nat.zero_le _⟩) hS (fun r_17 locs p_17 hS => ?_)
    refine lv_if_ne (tgt := 50) hx hb dX8_wrongOne_20 (by decide) (fun c_20 => ?_) (fun c_20 => ?_)
    · have c_20 := (fb_1 p_17).mp c_20
      refine lv_iconst (v := (nI 0)) hx hb dX8_wrongOne_50 (by decide) ?_
      refine lv_istore_n (lv' := [(3, .int (nI 0)), (0, .ref (fa g 239)), (1, .int (wrI σ w i)), (2, .int (nI i))]) hx hb dX8_wrongOne_51 rfl hl (by decide) rfl (fun ls hl => ?_)
      refine lv_iload_n hx hb dX8_wrongOne_52 rfl (lv_at hl 0 rfl) ?_
      refine lv_if_ne (tgt := 60) hx hb dX8_wrongOne_53 (by decide) (fun c_53 => ?_) (fun c_53 => ?_)
      · exact absurd c_53 (by decide)
      refine lv_iload_n hx hb dX8_wrongOne_56 rfl (lv_at hl 2 rfl) ?_
      refine lv_goto (tgt := 72) hx hb dX8_wrongOne_57 (by decide) ?_
      have hst := (hG.how4 (show i < nT σ by omega)).2
      refine fs_vi (y := wrI σ w (i + 1)) (wrI_0 (bad_op c_20)) ?_
      refine lv_istore_n (lv' := [(1, .int (wrI σ w (i + 1))), (3, .int (nI 0)), (0, .ref (fa g 239)), (2, .int (nI i))]) hx hb dX8_wrongOne_72 rfl hl (by decide) rfl (fun ls hl => ?_)
      refine lv_iinc (v := (nI (i + 1))) (lv' := [(2, .int (nI (i + 1))), (1, .int (wrI σ w (i + 1))), (3, .int (nI 0)), (0, .ref (fa g 239))]) hx hb dX8_wrongOne_73 hl (k := 3) rfl (nI_1 _) (by decide) rfl (fun ls hl => ?_)
      refine lv_goto (tgt := 5) hx hb dX8_wrongOne_76 (by decide) ?_
      exact ih (i + 1) ls _ (by (try dsimp only); omega) ⟨lv_sub hl [3, 1, 0] rfl, by omega⟩ hS
    · have c_20 := (fb_0 p_17).mp c_20
      refine lv_aload_n hx hb dX8_wrongOne_23 rfl (lv_at hl 0 rfl) ?_
      refine lv_iload_n hx hb dX8_wrongOne_24 rfl (lv_at hl 2 rfl) ?_
      refine fs_pi (va_runV (As := [.int (nI i)]) (rest := []) E.1 (c_X8_holdsRumour l g N ct z F σ (by omega) hG hM hT w hw hW i (by omega)) (lk_RX8_71 E.1.2.2.2.2 ⟨Nat.le_of_ble_eq_true rfl, Nat.le_of_ble_eq_true rfl⟩) (fpreV E hP hS fc8 m_1o (by omega)) rfl rfl hl.1 rfl (lv_room (Nat.le_of_ble_eq_true rfl)) dX8_wrongOne_25 ⟨Nat.zero_le _, Nat.zero_le _⟩) hS (fun r_25 locs p_25 hS => ?_)
      refine lv_aload_n hx hb dX8_wrongOne_28 rfl (lv_at hl 0 rfl) ?_
      refine lv_iload_n hx hb dX8_wrongOne_29 rfl (lv_at hl 2 rfl) ?_
      refine lv_iconst (v := (nI 4)) hx hb dX8_wrongOne_30 (by decide) ?_
      have hst := (hG.how4 (show i < nT σ by omega)).2
      refine fs_pi (va_runV (As := [.int (nI i), .int (nI 4)]) (rest := [.int r_25]) E.1 (c_X8_part l g N ct z F σ (by omega) hG hM hT i 4 (by omega)) (lk_RX8_53 E.1.2.2.2.2 ⟨Nat.le_of_ble_eq_true rfl, Nat.le_of_ble_eq_true rfl⟩) (fpreV E hP hS fc8 m_1o (by omega)) rfl rfl hl.1 rfl (lv_room (Nat.le_of_ble_eq_true rfl)) dX8_wrongOne_31 ⟨Nat.zero_le _, Nat.zero_le _⟩) hS (fun r_31 locs p_31 hS => ?_)
      refine fs_vi (y := (nI (rk σ i 4))) (p_31.trans ((hG.r (by omega)).1 4 (by omega))) ?_
      refine lv_iconst (v := (nI 1)) hx hb dX8_wrongOne_34 (by decide) ?_
      refine lv_icmp_ne (tgt := 42) hx hb dX8_wrongOne_35 (by decide) (fun c_35 => ?_) (fun c_35 => ?_)
      · rw [nI_eq (by omega) (by omega)] at c_35
        refine lv_iconst (v := (nI 0)) hx hb dX8_wrongOne_42 (by decide) ?_
        refine lv_icmp_eq (tgt := 50) hx hb dX8_wrongOne_43 (by decide) (fun c_43 => ?_) (fun c_43 => ?_)
        · refine lv_iconst (v := (nI 0)) hx hb dX8_wrongOne_50 (by decide) ?_
          refine lv_istore_n (lv' := [(3, .int (nI 0)), (0, .ref (fa g 239)), (1, .int (wrI σ w i)), (2, .int (nI i))]) hx hb dX8_wrongOne_51 rfl hl (by decide) rfl (fun ls hl => ?_)
          refine lv_iload_n hx hb dX8_wrongOne_52 rfl (lv_at hl 0 rfl) ?_
          refine lv_if_ne (tgt := 60) hx hb dX8_wrongOne_53 (by decide) (fun c_53 => ?_) (fun c_53 => ?_)
          · exact absurd c_53 (by decide)
          refine lv_iload_n hx hb dX8_wrongOne_56 rfl (lv_at hl 2 rfl) ?_
          refine lv_goto (tgt := 72) hx hb dX8_wrongOne_57 (by decide) ?_
          have hst := (hG.how4 (show i < nT σ by omega)).2
          have hbd : bad σ w i = false := by rw [bad_re (by omega), Bool.eq_false_iff.mpr (bI0 (p_25.symm.trans c_43))]
          refine fs_vi (y := wrI σ w (i + 1)) (wrI_0 hbd) ?_
          refine lv_istore_n (lv' := [(1, .int (wrI σ w (i + 1))), (3, .int (nI 0)), (0, .ref (fa g 239)), (2, .int (nI i))]) hx hb dX8_wrongOne_72 rfl hl (by decide) rfl (fun ls hl => ?_)
          refine lv_iinc (v := (nI (i + 1))) (lv' := [(2, .int (nI (i + 1))), (1, .int (wrI σ w (i + 1))), (3, .int (nI 0)), (0, .ref (fa g 239))]) hx hb dX8_wrongOne_73 hl (k := 3) rfl (nI_1 _) (by decide) rfl (fun ls hl => ?_)
          refine lv_goto (tgt := 5) hx hb dX8_wrongOne_76 (by decide) ?_
          exact ih (i + 1) ls _ (by (try dsimp only); omega) ⟨lv_sub hl [3, 1, 0] rfl, by omega⟩ hS
        · refine lv_iconst (v := (nI 1)) hx hb dX8_wrongOne_46 (by decide) ?_
          refine lv_goto (tgt := 51) hx hb dX8_wrongOne_47 (by decide) ?_
          refine lv_istore_n (lv' := [(3, .int (nI 1)), (0, .ref (fa g 239)), (1, .int (wrI σ w i)), (2, .int (nI i))]) hx hb dX8_wrongOne_51 rfl hl (by decide) rfl (fun ls hl => ?_)
          refine lv_iload_n hx hb dX8_wrongOne_52 rfl (lv_at hl 0 rfl) ?_
          refine lv_if_ne (tgt := 60) hx hb dX8_wrongOne_53 (by decide) (fun c_53 => ?_) (fun c_53 => ?_)
          rotate_left
          · exact absurd c_53 (by decide)
          refine lv_iload_n hx hb dX8_wrongOne_60 rfl (lv_at hl 2 rfl) ?_
          refine lv_bipush (v := (-6)) hx hb dX8_wrongOne_61 (by decide) ?_
          refine lv_icmp_ne (tgt := 70) hx hb dX8_wrongOne_63 (by decide) (fun c_63 => ?_) (fun c_63 => ?_)
          · refine lv_bipush (v := (nI 20)) hx hb dX8_wrongOne_70 (by decide) ?_
            have hst := (hG.how4 (show i < nT σ by omega)).2
            have hbd : bad σ w i = true := by rw [bad_re (by omega)]; exact bI0n (fun z => c_43 (p_25.trans z))
            refine fs_vi (y := wrI σ w (i + 1)) (wrI_2 hbd c_63) ?_
            refine lv_istore_n (lv' := [(1, .int (wrI σ w (i + 1))), (3, .int (nI 1)), (0, .ref (fa g 239)), (2, .int (nI i))]) hx hb dX8_wrongOne_72 rfl hl (by decide) rfl (fun ls hl => ?_)
            refine lv_iinc (v := (nI (i + 1))) (lv' := [(2, .int (nI (i + 1))), (1, .int (wrI σ w (i + 1))), (3, .int (nI 1)), (0, .ref (fa g 239))]) hx hb dX8_wrongOne_73 hl (k := 3) rfl (nI_1 _) (by decide) rfl (fun ls hl => ?_)
            refine lv_goto (tgt := 5) hx hb dX8_wrongOne_76 (by decide) ?_
            exact ih (i + 1) ls _ (by (try dsimp only); omega) ⟨lv_sub hl [3, 1, 0] rfl, by omega⟩ hS
          · refine lv_iload_n hx hb dX8_wrongOne_66 rfl (lv_at hl 3 rfl) ?_
            refine lv_goto (tgt := 72) hx hb dX8_wrongOne_67 (by decide) ?_
            have hst := (hG.how4 (show i < nT σ by omega)).2
            have hbd : bad σ w i = true := by rw [bad_re (by omega)]; exact bI0n (fun z => c_43 (p_25.trans z))
            refine fs_vi (y := wrI σ w (i + 1)) (wrI_1 hbd c_63) ?_
            refine lv_istore_n (lv' := [(1, .int (wrI σ w (i + 1))), (3, .int (nI 1)), (0, .ref (fa g 239)), (2, .int (nI i))]) hx hb dX8_wrongOne_72 rfl hl (by decide) rfl (fun ls hl => ?_)
            refine lv_iinc (v := (nI (i + 1))) (lv' := [(2, .int (nI (i + 1))), (1, .int (wrI σ w (i + 1))), (3, .int (nI 1)), (0, .ref (fa g 239))]) hx hb dX8_wrongOne_73 hl (k := 3) rfl (nI_1 _) (by decide) rfl (fun ls hl => ?_)
            refine lv_goto (tgt := 5) hx hb dX8_wrongOne_76 (by decide) ?_
            exact ih (i + 1) ls _ (by (try dsimp only); omega) ⟨lv_sub hl [3, 1, 0] rfl, by omega⟩ hS
      · rw [nI_eq (by omega) (by omega)] at c_35
        refine lv_iconst (v := (nI 1)) hx hb dX8_wrongOne_38 (by decide) ?_
        refine lv_goto (tgt := 43) hx hb dX8_wrongOne_39 (by decide) ?_
        refine lv_icmp_eq (tgt := 50) hx hb dX8_wrongOne_43 (by decide) (fun c_43 => ?_) (fun c_43 => ?_)
        · refine lv_iconst (v := (nI 0)) hx hb dX8_wrongOne_50 (by decide) ?_
          refine lv_istore_n (lv' := [(3, .int (nI 0)), (0, .ref (fa g 239)), (1, .int (wrI σ w i)), (2, .int (nI i))]) hx hb dX8_wrongOne_51 rfl hl (by decide) rfl (fun ls hl => ?_)
          refine lv_iload_n hx hb dX8_wrongOne_52 rfl (lv_at hl 0 rfl) ?_
          refine lv_if_ne (tgt := 60) hx hb dX8_wrongOne_53 (by decide) (fun c_53 => ?_) (fun c_53 => ?_)
          · exact absurd c_53 (by decide)
          refine lv_iload_n hx hb dX8_wrongOne_56 rfl (lv_at hl 2 rfl) ?_
          refine lv_goto (tgt := 72) hx hb dX8_wrongOne_57 (by decide) ?_
          have hst := (hG.how4 (show i < nT σ by omega)).2
          have hbd : bad σ w i = false := by rw [bad_pr c_35, bI1 (p_25.symm.trans c_43)]; rfl
          refine fs_vi (y := wrI σ w (i + 1)) (wrI_0 hbd) ?_
          refine lv_istore_n (lv' := [(1, .int (wrI σ w (i + 1))), (3, .int (nI 0)), (0, .ref (fa g 239)), (2, .int (nI i))]) hx hb dX8_wrongOne_72 rfl hl (by decide) rfl (fun ls hl => ?_)
          refine lv_iinc (v := (nI (i + 1))) (lv' := [(2, .int (nI (i + 1))), (1, .int (wrI σ w (i + 1))), (3, .int (nI 0)), (0, .ref (fa g 239))]) hx hb dX8_wrongOne_73 hl (k := 3) rfl (nI_1 _) (by decide) rfl (fun ls hl => ?_)
          refine lv_goto (tgt := 5) hx hb dX8_wrongOne_76 (by decide) ?_
          exact ih (i + 1) ls _ (by (try dsimp only); omega) ⟨lv_sub hl [3, 1, 0] rfl, by omega⟩ hS
        · refine lv_iconst (v := (nI 1)) hx hb dX8_wrongOne_46 (by decide) ?_
          refine lv_goto (tgt := 51) hx hb dX8_wrongOne_47 (by decide) ?_
          refine lv_istore_n (lv' := [(3, .int (nI 1)), (0, .ref (fa g 239)), (1, .int (wrI σ w i)), (2, .int (nI i))]) hx hb dX8_wrongOne_51 rfl hl (by decide) rfl (fun ls hl => ?_)
          refine lv_iload_n hx hb dX8_wrongOne_52 rfl (lv_at hl 0 rfl) ?_
          refine lv_if_ne (tgt := 60) hx hb dX8_wrongOne_53 (by decide) (fun c_53 => ?_) (fun c_53 => ?_)
          rotate_left
          · exact absurd c_53 (by decide)
          refine lv_iload_n hx hb dX8_wrongOne_60 rfl (lv_at hl 2 rfl) ?_
          refine lv_bipush (v := (-6)) hx hb dX8_wrongOne_61 (by decide) ?_
          refine lv_icmp_ne (tgt := 70) hx hb dX8_wrongOne_63 (by decide) (fun c_63 => ?_) (fun c_63 => ?_)
          · refine lv_bipush (v := (nI 20)) hx hb dX8_wrongOne_70 (by decide) ?_
            have hst := (hG.how4 (show i < nT σ by omega)).2
            have hbd : bad σ w i = true := by rw [bad_pr c_35, Bool.eq_false_iff.mpr (bI1n (fun z => c_43 (p_25.trans z)))]; rfl
            refine fs_vi (y := wrI σ w (i + 1)) (wrI_2 hbd c_63) ?_
            refine lv_istore_n (lv' := [(1, .int (wrI σ w (i + 1))), (3, .int (nI 1)), (0, .ref (fa g 239)), (2, .int (nI i))]) hx hb dX8_wrongOne_72 rfl hl (by decide) rfl (fun ls hl => ?_)
            refine lv_iinc (v := (nI (i + 1))) (lv' := [(2, .int (nI (i + 1))), (1, .int (wrI σ w (i + 1))), (3, .int (nI 1)), (0, .ref (fa g 239))]) hx hb dX8_wrongOne_73 hl (k := 3) rfl (nI_1 _) (by decide) rfl (fun ls hl => ?_)
            refine lv_goto (tgt := 5) hx hb dX8_wrongOne_76 (by decide) ?_
            exact ih (i + 1) ls _ (by (try dsimp only); omega) ⟨lv_sub hl [3, 1, 0] rfl, by omega⟩ hS
          · refine lv_iload_n hx hb dX8_wrongOne_66 rfl (lv_at hl 3 rfl) ?_
            refine lv_goto (tgt := 72) hx hb dX8_wrongOne_67 (by decide) ?_
            have hst := (hG.how4 (show i < nT σ by omega)).2
            have hbd : bad σ w i = true := by rw [bad_pr c_35, Bool.eq_false_iff.mpr (bI1n (fun z => c_43 (p_25.trans z)))]; rfl
            refine fs_vi (y := wrI σ w (i + 1)) (wrI_1 hbd c_63) ?_
            refine lv_istore_n (lv' := [(1, .int (wrI σ w (i + 1))), (3, .int (nI 1)), (0, .ref (fa g 239)), (2, .int (nI i))]) hx hb dX8_wrongOne_72 rfl hl (by decide) rfl (fun ls hl => ?_)
            refine lv_iinc (v := (nI (i + 1))) (lv' := [(2, .int (nI (i + 1))), (1, .int (wrI σ w (i + 1))), (3, .int (nI 1)), (0, .ref (fa g 239))]) hx hb dX8_wrongOne_73 hl (k := 3) rfl (nI_1 _) (by decide) rfl (fun ls hl => ?_)
            refine lv_goto (tgt := 5) hx hb dX8_wrongOne_76 (by decide) ?_
            exact ih (i + 1) ls _ (by (try dsimp only); omega) ⟨lv_sub hl [3, 1, 0] rfl, by omega⟩ hS

theorem fnd_t {p : Nat → Bool} {m : Nat} (h : p m = true) : nI m = fnd p (m + 1) := by
  have e : fnd p (m + 1) = if p m = true then nI m else fnd p m := rfl
  rw [e, if_pos h]
theorem fnd_f {p : Nat → Bool} {m : Nat} (h : p m = false) : fnd p m = fnd p (m + 1) := by
  have e : fnd p (m + 1) = if p m = true then nI m else fnd p m := rfl
  rw [e, h]; rfl
set_option maxRecDepth 100000 in
set_option maxHeartbeats 4000000 in
theorem c_X8_certainBox (l : Launch) (g : fG) (N : Nat) (ct : Nat → va_E) (z : Nat → Int32) (F : Nat → Nat → Int32) (σ : Nat → Int32) (hN : 249 ≤ N) (hG : Good σ) (hM : MA g ct z F) (hT : SR σ F) (hC : CNT σ (mM σ) z F) (p0 : Nat) (hp0 : p0 < nB σ) : Met l yX8_certainBox (wsU yX8_certainBox cX8_certainBox 4 (some .int)) rX8_certainBox (fPre g N ct [.ref (fa g 239), .int (nI p0)]) (fQpi (fun r => r = crF σ p0)) 0 0 (fB g) := by
  refine fs_start (own := RX8) (lv0 := [(0, .ref (fa g 239)), (1, .int (nI p0))]) (by decide) rfl (Nat.le_of_ble_eq_true rfl) rfl ?_
  intro p e s m args below meth c ls E hr hlk hnm hP hl hS
  have hx := E.1.1
  have hb := E.1.2.1
  have m_1o : ct 239 = .inr (8, [.ref (fa g 240), .ref (fa g 241), .int (z 0), .ref (fa g 242), .ref (fa g 243), .ref (fa g 244), .int (z 1), .ref (fa g 245), .int (z 2), .ref (fa g 246), .ref (fa g 247), .ref (fa g 248), .int (z 3), .int (z 4), .int (z 5), .int (z 6), .int (z 7), .int (z 8), .int (z 9)]) := (hM).1
  have m_1r0 : ct 240 = .inl (fcI g, 121, .inl (F 0)) := (hM).2.1
  have m_1r1 : ct 241 = .inl (fcI g, 726, .inl (F 1)) := (hM).2.2.1
  have m_1r2 : ct 242 = .inl (fcI g, 242, .inl (F 2)) := (hM).2.2.2.1
  have m_1r3 : ct 243 = .inl (fcI g, 2, .inl (F 3)) := (hM).2.2.2.2.1
  have m_1r4 : ct 244 = .inl (fcI g, 60, .inl (F 4)) := (hM).2.2.2.2.2.1
  have m_1r5 : ct 245 = .inl (fcI g, 6, .inl (F 5)) := (hM).2.2.2.2.2.2.1
  have m_1r6 : ct 246 = .inl (fcI g, 36, .inl (F 6)) := (hM).2.2.2.2.2.2.2.1
  have m_1r7 : ct 247 = .inl (fcI g, 20, .inl (F 7)) := (hM).2.2.2.2.2.2.2.2.1
  have m_1r8 : ct 248 = .inl (fcI g, 20, .inl (F 8)) := (hM).2.2.2.2.2.2.2.2.2
  have hn3 := hG.n3
  have hn6 := hG.n6
  have hk20 := hG.k
  have hWl := Wn_le hG
  have hz2 : z 2 = nI (Wn σ) := hC.1
  refine lv_bipush (v := (-6)) hx hb dX8_certainBox_0 (by decide) ?_
  refine lv_istore_n (lv' := [(2, .int (-6)), (0, .ref (fa g 239)), (1, .int (nI p0))]) hx hb dX8_certainBox_2 rfl hl (by decide) rfl (fun ls hl => ?_)
  refine lv_iconst (v := (nI 0)) hx hb dX8_certainBox_3 (by decide) ?_
  refine lv_istore_n (lv' := [(3, .int (nI 0)), (2, .int (-6)), (0, .ref (fa g 239)), (1, .int (nI p0))]) hx hb dX8_certainBox_4 rfl hl (by decide) rfl (fun ls hl => ?_)
  refine fs_indP (g := g) (St := Nat) (fun (i : Nat) (ls : Array Slot) => lv_has ls 4 [(0, .ref (fa g 239)), (1, .int (nI p0)), (2, .int (fnd (crt σ p0) i)), (3, .int (nI i))] ∧ i ≤ nB σ) (fun (i : Nat) => nB σ - i) ?_ 0 ls _ ⟨lv_sub hl [2, 3, 1, 0] rfl, Nat.zero_le _⟩ hS
  clear hl hS
  intro st ls locs hI hS ih
  obtain ⟨i, rfl⟩ : ∃ z, z = st := ⟨_, rfl⟩
  obtain ⟨hl, hI⟩ := hI
  have hI0 := hI
  refine lv_iload_n hx hb dX8_certainBox_5 rfl (lv_at hl 3 rfl) ?_
  refine lv_aload_n hx hb dX8_certainBox_6 rfl (lv_at hl 0 rfl) ?_
  refine fs_get E hP (k := 239) (v := .ref (fa g 240)) 0 fc8 m_1o (by omega) (by decide) (wm wl_5 (i := 0) rfl) rfl dX8_certainBox_7 ?_
  refine lv_iconst (v := (nI 0)) hx hb dX8_certainBox_10 (by decide) ?_
  refine fs_iald E hP (k := 240) m_1r0 (by omega) (vp_in_nI (by omega) (by omega)) dX8_certainBox_11 ?_
  refine fs_vi (y := (F 0) 0) (congrArg (F 0) (nI_clamp (by omega))) ?_
  refine fs_vi (y := (nI (nB σ))) (hT.n hG) ?_
  refine lv_icmp_ge (tgt := 52) hx hb dX8_certainBox_12 (by decide) (fun c_12 => ?_) (fun c_12 => ?_)
  · rw [nI_leI (by omega) (by omega)] at c_12
    refine lv_iload_n hx hb dX8_certainBox_52 rfl (lv_at hl 2 rfl) ?_
    refine fs_piret E hr hlk hS dX8_certainBox_53 ?_
    unfold crF; rw [show nB σ = i by omega]
  · rw [nI_leI (by omega) (by omega)] at c_12
    refine lv_aload_n hx hb dX8_certainBox_15 rfl (lv_at hl 0 rfl) ?_
    refine fs_get E hP (k := 239) (v := .int (z 2)) 8 fc8 m_1o (by omega) (by decide) (wm wl_21 (i := 7) rfl) rfl dX8_certainBox_16 ?_
    refine fs_vi (y := nI (Wn σ)) hz2 ?_
    refine lv_if_le (tgt := 44) hx hb dX8_certainBox_19 (by decide) (fun c_19 => ?_) (fun c_19 => ?_)
    · rw [fz_leN (by omega)] at c_19
      refine lv_iload_n hx hb dX8_certainBox_44 rfl (lv_at hl 2 rfl) ?_
      refine fs_vi (y := fnd (crt σ p0) (i + 1)) (fnd_f (decide_eq_false (fun y => by have := y.1; omega))) ?_
      refine lv_istore_n (lv' := [(2, .int (fnd (crt σ p0) (i + 1))), (0, .ref (fa g 239)), (1, .int (nI p0)), (3, .int (nI i))]) hx hb dX8_certainBox_45 rfl hl (by decide) rfl (fun ls hl => ?_)
      refine lv_iinc (v := (nI (i + 1))) (lv' := [(3, .int (nI (i + 1))), (2, .int (fnd (crt σ p0) (i + 1))), (0, .ref (fa g 239)), (1, .int (nI p0))]) hx hb dX8_certainBox_46 hl (k := 3) rfl (nI_1 _) (by decide) rfl (fun ls hl => ?_)
      refine lv_goto (tgt := 5) hx hb dX8_certainBox_49 (by decide) ?_
      exact ih (i + 1) ls _ (by (try dsimp only); omega) ⟨lv_sub hl [2, 3, 1, 0] rfl, by omega⟩ hS
    · rw [fz_leN (by omega)] at c_19
      refine lv_aload_n hx hb dX8_certainBox_22 rfl (lv_at hl 0 rfl) ?_
      refine fs_get E hP (k := 239) (v := .ref (fa g 246)) 9 fc8 m_1o (by omega) (by decide) (wm wl_5 (i := 6) rfl) rfl dX8_certainBox_23 ?_
      refine lv_bipush (v := (nI 6)) hx hb dX8_certainBox_26 (by decide) ?_
      refine lv_iload_n hx hb dX8_certainBox_28 rfl (lv_at hl 1 rfl) ?_
      refine lv_imul hx hb dX8_certainBox_29 ?_
      refine fs_vi (y := nI (6 * p0)) (pk_mul _ _) ?_
      refine lv_iload_n hx hb dX8_certainBox_30 rfl (lv_at hl 3 rfl) ?_
      refine lv_iadd hx hb dX8_certainBox_31 ?_
      refine fs_vi (y := nI (6 * p0 + i)) (nI_add _ _) ?_
      refine fs_iald E hP (k := 246) m_1r6 (by omega) (vp_in_nI (by omega) (by omega)) dX8_certainBox_32 ?_
      refine fs_vi (y := (F 6) (6 * p0 + i)) (congrArg (F 6) (nI_clamp (by omega))) ?_
      refine fs_vi (y := (nI (LKn σ p0 i))) (hC.2.1 p0 i hp0 (by omega)) ?_
      refine lv_aload_n hx hb dX8_certainBox_33 rfl (lv_at hl 0 rfl) ?_
      refine fs_get E hP (k := 239) (v := .int (z 2)) 8 fc8 m_1o (by omega) (by decide) (wm wl_21 (i := 7) rfl) rfl dX8_certainBox_34 ?_
      refine fs_vi (y := nI (Wn σ)) hz2 ?_
      have hLl := LK_le hG p0 i
      refine lv_icmp_ne (tgt := 44) hx hb dX8_certainBox_37 (by decide) (fun c_37 => ?_) (fun c_37 => ?_)
      · rw [nI_eq (by omega) (by omega)] at c_37
        refine lv_iload_n hx hb dX8_certainBox_44 rfl (lv_at hl 2 rfl) ?_
        refine fs_vi (y := fnd (crt σ p0) (i + 1)) (fnd_f (decide_eq_false (fun y => c_37 y.2))) ?_
        refine lv_istore_n (lv' := [(2, .int (fnd (crt σ p0) (i + 1))), (0, .ref (fa g 239)), (1, .int (nI p0)), (3, .int (nI i))]) hx hb dX8_certainBox_45 rfl hl (by decide) rfl (fun ls hl => ?_)
        refine lv_iinc (v := (nI (i + 1))) (lv' := [(3, .int (nI (i + 1))), (2, .int (fnd (crt σ p0) (i + 1))), (0, .ref (fa g 239)), (1, .int (nI p0))]) hx hb dX8_certainBox_46 hl (k := 3) rfl (nI_1 _) (by decide) rfl (fun ls hl => ?_)
        refine lv_goto (tgt := 5) hx hb dX8_certainBox_49 (by decide) ?_
        exact ih (i + 1) ls _ (by (try dsimp only); omega) ⟨lv_sub hl [2, 3, 1, 0] rfl, by omega⟩ hS
      · rw [nI_eq (by omega) (by omega)] at c_37
        refine lv_iload_n hx hb dX8_certainBox_40 rfl (lv_at hl 3 rfl) ?_
        refine lv_goto (tgt := 45) hx hb dX8_certainBox_41 (by decide) ?_
        refine fs_vi (y := fnd (crt σ p0) (i + 1)) (fnd_t (decide_eq_true ⟨by omega, c_37⟩)) ?_
        refine lv_istore_n (lv' := [(2, .int (fnd (crt σ p0) (i + 1))), (0, .ref (fa g 239)), (1, .int (nI p0)), (3, .int (nI i))]) hx hb dX8_certainBox_45 rfl hl (by decide) rfl (fun ls hl => ?_)
        refine lv_iinc (v := (nI (i + 1))) (lv' := [(3, .int (nI (i + 1))), (2, .int (fnd (crt σ p0) (i + 1))), (0, .ref (fa g 239)), (1, .int (nI p0))]) hx hb dX8_certainBox_46 hl (k := 3) rfl (nI_1 _) (by decide) rfl (fun ls hl => ?_)
        refine lv_goto (tgt := 5) hx hb dX8_certainBox_49 (by decide) ?_
        exact ih (i + 1) ls _ (by (try dsimp only); omega) ⟨lv_sub hl [2, 3, 1, 0] rfl, by omega⟩ hS
