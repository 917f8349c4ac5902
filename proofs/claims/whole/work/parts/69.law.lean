theorem lw_le {L i : Nat} (hL : L ≤ 2560) (hi : i ≤ 3000) : nI L - nI 5 < nI i ↔ ¬ i + 5 ≤ L := by
  rw [Int32.lt_iff_toInt_lt, nI_toInt (show i < 2147483648 by omega)]
  rcases Nat.lt_or_ge L 5 with h | h
  · have e : (nI L - nI 5).toInt = (L : Int) - 5 := by
      rcases (show L = 0 ∨ L = 1 ∨ L = 2 ∨ L = 3 ∨ L = 4 by omega) with rfl | rfl | rfl | rfl | rfl <;> decide
    rw [e]; omega
  · rw [pk_sub h, nI_toInt (by omega)]; omega
theorem fNb_on {w : Cond} (h : fNb w = true) : w.onTables = true := by
  cases w <;> first | rfl | (exfalso; revert h; simp [fNb])
theorem nest_in : ∀ w ∈ fNest, w ∈ lw_tbl := List.forall_mem_cons.mpr ⟨(tmI tm1 (i := 38) rfl), List.forall_mem_cons.mpr ⟨(tmI tm1 (i := 39) rfl), List.forall_mem_cons.mpr ⟨(tmI tm1 (i := 41) rfl), List.forall_mem_cons.mpr ⟨(tmI tm1 (i := 43) rfl), List.forall_mem_cons.mpr ⟨(tmI tm1 (i := 45) rfl), List.forall_mem_cons.mpr ⟨(tmI tm1 (i := 47) rfl), List.forall_mem_cons.mpr ⟨(tmI tm1 (i := 48) rfl), List.forall_mem_cons.mpr ⟨(tmI tm1 (i := 62) rfl), List.forall_mem_cons.mpr ⟨(tmI tm1 (i := 63) rfl), List.forall_mem_cons.mpr ⟨(tmI tm1 (i := 65) rfl), List.forall_mem_cons.mpr ⟨(tmI tm1 (i := 67) rfl), List.forall_mem_cons.mpr ⟨(tmI tm1 (i := 68) rfl), List.forall_mem_cons.mpr ⟨(tmI tm1 (i := 70) rfl), List.forall_mem_cons.mpr ⟨(tmI tm1 (i := 72) rfl), List.forall_mem_cons.mpr ⟨(tmI tm1 (i := 74) rfl), List.forall_mem_cons.mpr ⟨(tmI tm1 (i := 102) rfl), List.forall_mem_cons.mpr ⟨(tmI tm1 (i := 120) rfl), List.forall_mem_cons.mpr ⟨(tmI tm1 (i := 121) rfl), List.forall_mem_cons.mpr ⟨(tmI tm1 (i := 135) rfl), List.forall_mem_cons.mpr ⟨(tmI tm1 (i := 156) rfl), List.forall_mem_cons.mpr ⟨(tmI tm1 (i := 166) rfl), List.forall_mem_cons.mpr ⟨(tmI tm1 (i := 168) rfl), List.forall_mem_cons.mpr ⟨(tmI tm1 (i := 170) rfl), List.forall_mem_cons.mpr ⟨(tmI tm1 (i := 173) rfl), List.forall_mem_cons.mpr ⟨(tmI tm1 (i := 175) rfl), List.forall_mem_cons.mpr ⟨(tmI tm1 (i := 33) rfl), List.forall_mem_cons.mpr ⟨(tmI tm1 (i := 113) rfl), List.forall_mem_cons.mpr ⟨(tmI tm1 (i := 129) rfl), List.forall_mem_cons.mpr ⟨(tmI tm1 (i := 144) rfl), List.forall_mem_cons.mpr ⟨(tmI tm1 (i := 150) rfl), List.forall_mem_cons.mpr ⟨(tmI tm1 (i := 163) rfl), List.forall_mem_cons.mpr ⟨(tmI tm1 (i := 198) rfl), List.forall_mem_cons.mpr ⟨(tmI tm2 (i := 3) rfl), List.forall_mem_cons.mpr ⟨(tmI tm2 (i := 219) rfl), List.forall_mem_cons.mpr ⟨(tmI tm3 (i := 0) rfl), List.forall_mem_cons.mpr ⟨(tmI tm3 (i := 1) rfl), List.forall_mem_cons.mpr ⟨(tmI tm3 (i := 8) rfl), List.forall_mem_cons.mpr ⟨(tmI tm3 (i := 9) rfl), List.forall_mem_cons.mpr ⟨(tmI tm3 (i := 18) rfl), List.forall_mem_cons.mpr ⟨(tmI tm3 (i := 19) rfl), List.forall_mem_cons.mpr ⟨(tmI tm3 (i := 71) rfl), List.forall_mem_cons.mpr ⟨(tmI tm3 (i := 179) rfl), (fun _ h => absurd h List.not_mem_nil)⟩⟩⟩⟩⟩⟩⟩⟩⟩⟩⟩⟩⟩⟩⟩⟩⟩⟩⟩⟩⟩⟩⟩⟩⟩⟩⟩⟩⟩⟩⟩⟩⟩⟩⟩⟩⟩⟩⟩⟩⟩⟩
theorem ftab_0_24 {x : Int32} (k0 : ¬ x = nI 0) (k1 : ¬ x = nI 1) (k2 : ¬ x = nI 2) (k3 : ¬ x = nI 3) (k4 : ¬ x = nI 4) (k5 : ¬ x = nI 5) (k6 : ¬ x = nI 6) (k7 : ¬ x = nI 7) (k8 : ¬ x = nI 8) (k9 : ¬ x = nI 9) (k10 : ¬ x = nI 10) (k11 : ¬ x = nI 11) (k12 : ¬ x = nI 12) (k13 : ¬ x = nI 13) (k14 : ¬ x = nI 14) (k15 : ¬ x = nI 15) (k16 : ¬ x = nI 16) (k17 : ¬ x = nI 17) (k18 : ¬ x = nI 18) (k19 : ¬ x = nI 19) (k20 : ¬ x = nI 20) (k21 : ¬ x = nI 21) (k22 : ¬ x = nI 22) (k23 : ¬ x = nI 23) (k24 : ¬ x = nI 24) : x.toInt < 0 ∨ 24 < x.toInt := by
  have a0 : ¬ x.toInt = 0 := fun q => k0 ((fn_eq (by omega)).mpr (by omega))
  have a1 : ¬ x.toInt = 1 := fun q => k1 ((fn_eq (by omega)).mpr (by omega))
  have a2 : ¬ x.toInt = 2 := fun q => k2 ((fn_eq (by omega)).mpr (by omega))
  have a3 : ¬ x.toInt = 3 := fun q => k3 ((fn_eq (by omega)).mpr (by omega))
  have a4 : ¬ x.toInt = 4 := fun q => k4 ((fn_eq (by omega)).mpr (by omega))
  have a5 : ¬ x.toInt = 5 := fun q => k5 ((fn_eq (by omega)).mpr (by omega))
  have a6 : ¬ x.toInt = 6 := fun q => k6 ((fn_eq (by omega)).mpr (by omega))
  have a7 : ¬ x.toInt = 7 := fun q => k7 ((fn_eq (by omega)).mpr (by omega))
  have a8 : ¬ x.toInt = 8 := fun q => k8 ((fn_eq (by omega)).mpr (by omega))
  have a9 : ¬ x.toInt = 9 := fun q => k9 ((fn_eq (by omega)).mpr (by omega))
  have a10 : ¬ x.toInt = 10 := fun q => k10 ((fn_eq (by omega)).mpr (by omega))
  have a11 : ¬ x.toInt = 11 := fun q => k11 ((fn_eq (by omega)).mpr (by omega))
  have a12 : ¬ x.toInt = 12 := fun q => k12 ((fn_eq (by omega)).mpr (by omega))
  have a13 : ¬ x.toInt = 13 := fun q => k13 ((fn_eq (by omega)).mpr (by omega))
  have a14 : ¬ x.toInt = 14 := fun q => k14 ((fn_eq (by omega)).mpr (by omega))
  have a15 : ¬ x.toInt = 15 := fun q => k15 ((fn_eq (by omega)).mpr (by omega))
  have a16 : ¬ x.toInt = 16 := fun q => k16 ((fn_eq (by omega)).mpr (by omega))
  have a17 : ¬ x.toInt = 17 := fun q => k17 ((fn_eq (by omega)).mpr (by omega))
  have a18 : ¬ x.toInt = 18 := fun q => k18 ((fn_eq (by omega)).mpr (by omega))
  have a19 : ¬ x.toInt = 19 := fun q => k19 ((fn_eq (by omega)).mpr (by omega))
  have a20 : ¬ x.toInt = 20 := fun q => k20 ((fn_eq (by omega)).mpr (by omega))
  have a21 : ¬ x.toInt = 21 := fun q => k21 ((fn_eq (by omega)).mpr (by omega))
  have a22 : ¬ x.toInt = 22 := fun q => k22 ((fn_eq (by omega)).mpr (by omega))
  have a23 : ¬ x.toInt = 23 := fun q => k23 ((fn_eq (by omega)).mpr (by omega))
  have a24 : ¬ x.toInt = 24 := fun q => k24 ((fn_eq (by omega)).mpr (by omega))
  omega
set_option maxRecDepth 100000 in
set_option maxHeartbeats 4000000 in
theorem lw_start {s : State} {args : Array Value} (hts : ∀ w ∈ lw_tbl, w.before args s = true) (hgv : (Jvm.Cond.and given_1 narrow_1).before args s = true) : ∃ g : fG, g.2.1 = s.heap.size ∧ fV g s ∧ fX g s s.heap := by
  have h2 : ∀ w ∈ wsL_law, w.before args s = true := fun w h => hts w (wsL_law_in w h)
  obtain ⟨c0, i0, k0⟩ := u_known (C := RX0) (T := TX0) (N := 3) (n := 3) h2 fc0.2.1 (h2 _ (wm wl_1 (i := 18) rfl))
  obtain ⟨c1, i1, k1⟩ := u_known (C := RX1) (T := TX1) (N := 7) (n := 7) h2 fc1.2.1 (h2 _ (wm wl_1 (i := 14) rfl))
  obtain ⟨c2, i2, k2⟩ := u_known (C := RX2) (T := TX2) (N := 2) (n := 2) h2 fc2.2.1 (h2 _ (wm wl_2 (i := 3) rfl))
  obtain ⟨c3, i3, k3⟩ := u_known (C := RX3) (T := TX3) (N := 5) (n := 5) h2 fc3.2.1 (h2 _ (wm wl_2 (i := 20) rfl))
  obtain ⟨c4, i4, k4⟩ := u_known (C := RX4) (T := TX4) (N := 2) (n := 2) h2 fc4.2.1 (h2 _ (wm wl_1 (i := 22) rfl))
  obtain ⟨c5, i5, k5⟩ := u_known (C := RX5) (T := TX5) (N := 8) (n := 8) h2 fc5.2.1 (h2 _ (wm wl_2 (i := 7) rfl))
  obtain ⟨c6, i6, k6⟩ := u_known (C := RX6) (T := TX6) (N := 2) (n := 2) h2 fc6.2.1 (h2 _ (wm wl_3 (i := 23) rfl))
  obtain ⟨c7, i7, k7⟩ := u_known (C := RX7) (T := TX7) (N := 7) (n := 7) h2 fc7.2.1 (h2 _ (wm wl_1 (i := 1) rfl))
  obtain ⟨c8, i8, k8⟩ := u_known (C := RX8) (T := TX8) (N := 19) (n := 19) h2 fc8.2.1 (h2 _ (wm wl_1 (i := 4) rfl))
  obtain ⟨dC, dI, hKc⟩ : ∃ (dC : Nat → ClassId) (dI : Nat → Nat → Nat), ∀ (k : Nat) (q : vw_C), vwCl[k]? = some q → u_Kn s q.1 q.2.1 q.2.2 (dC k) (dI k) := by
    refine ⟨fun k => if k = 0 then c0 else if k = 1 then c1 else if k = 2 then c2 else if k = 3 then c3 else if k = 4 then c4 else if k = 5 then c5 else if k = 6 then c6 else if k = 7 then c7 else c8, fun k => if k = 0 then i0 else if k = 1 then i1 else if k = 2 then i2 else if k = 3 then i3 else if k = 4 then i4 else if k = 5 then i5 else if k = 6 then i6 else if k = 7 then i7 else i8, ?_⟩
    intro k q hq
    match k, hq with
    | 0, hq => cases hq; exact k0
    | 1, hq => cases hq; exact k1
    | 2, hq => cases hq; exact k2
    | 3, hq => cases hq; exact k3
    | 4, hq => cases hq; exact k4
    | 5, hq => cases hq; exact k5
    | 6, hq => cases hq; exact k6
    | 7, hq => cases hq; exact k7
    | 8, hq => cases hq; exact k8
    | k + 9, hq => simp at hq
  have hs := flat_of_before _ hgv
  have hA : ∀ a : Nat, a < s.heap.size → ¬ s.heap.size ≤ a := fun a h => Nat.not_le.mpr h
  obtain ⟨cI, kI, pI, fI1, fI2, fI3⟩ := Cond.arrayClass_spec (h2 _ (wm wl_2 (i := 14) rfl))
  obtain ⟨cC, kC, pC, fC1, fC2, fC3⟩ := Cond.arrayClass_spec (h2 _ (wm wl_3 (i := 17) rfl))
  have aR : (Cond.arrayOver (.object RX3)).before args s = true := hts _ (tmI tm1 (i := 31) rfl)
  obtain ⟨pR, cR, kR, rR1, rR2, rR3, rR4, rR5⟩ := Cond.arrayOver_spec aR
  have aH : (Cond.arrayOver (.object RX1)).before args s = true := hts _ (tmI tm1 (i := 98) rfl)
  obtain ⟨pH, cH, kH, rH1, rH2, rH3, rH4, rH5⟩ := Cond.arrayOver_spec aH
  have hex : (Cond.exactly (Term.string "OperaGlasses$Pad" 31) "java/lang/String").before args s = true := hs _ (by decide +kernel)
  have hco : (Cond.eq (.field (Term.string "OperaGlasses$Pad" 31) "java/lang/String" "coder" "B") (.int 0)).before args s = true := hs _ (by decide +kernel)
  have har : (Cond.arrayOf (Term.field (Term.string "OperaGlasses$Pad" 31) "java/lang/String" "value" "[B") .byte).before args s = true := hs _ (by decide +kernel)
  have hle : (Cond.eq (.length (Term.field (Term.string "OperaGlasses$Pad" 31) "java/lang/String" "value" "[B")) (.int 6)).before args s = true := hs _ (by decide +kernel)
  have he0 : (Cond.eq (.elem (Term.field (Term.string "OperaGlasses$Pad" 31) "java/lang/String" "value" "[B") (.int 0)) (.int 62)).before args s = true := hs _ (by decide +kernel)
  have he1 : (Cond.eq (.elem (Term.field (Term.string "OperaGlasses$Pad" 31) "java/lang/String" "value" "[B") (.int 1)) (.int 47)).before args s = true := hs _ (by decide +kernel)
  have he2 : (Cond.eq (.elem (Term.field (Term.string "OperaGlasses$Pad" 31) "java/lang/String" "value" "[B") (.int 2)) (.int 61)).before args s = true := hs _ (by decide +kernel)
  have he3 : (Cond.eq (.elem (Term.field (Term.string "OperaGlasses$Pad" 31) "java/lang/String" "value" "[B") (.int 3)) (.int 126)).before args s = true := hs _ (by decide +kernel)
  have he4 : (Cond.eq (.elem (Term.field (Term.string "OperaGlasses$Pad" 31) "java/lang/String" "value" "[B") (.int 4)) (.int 35)).before args s = true := hs _ (by decide +kernel)
  have he5 : (Cond.eq (.elem (Term.field (Term.string "OperaGlasses$Pad" 31) "java/lang/String" "value" "[B") (.int 5)) (.int 42)).before args s = true := hs _ (by decide +kernel)
  have hcs : (Cond.eq (Term.static "java/lang/String" "COMPACT_STRINGS" "Z") (.int 1)).before args s = true := hs _ (by decide +kernel)
  obtain ⟨adK, adV, hS, hev⟩ := vk_Sof (args := args) (s := s) (N := 1) (tm := fun _ => Term.string RX2 31) (len := [6]) (byt := [[62, 47, 61, 126, 35, 42]]) (A := fun q => s.heap.size ≤ q)
    (fun i hi => by have e0 : i = 0 := (by omega); subst e0; decide)
    (fun i hi => by have e0 : i = 0 := (by omega); subst e0; exact hex)
    (fun i hi => by have e0 : i = 0 := (by omega); subst e0; exact hco)
    (fun i hi => by have e0 : i = 0 := (by omega); subst e0; exact har)
    (fun i hi => by have e0 : i = 0 := (by omega); subst e0; exact hle)
    (fun i hi j hj => by
      have e0 : i = 0 := (by omega)
      subst e0
      have hj6 : j < 6 := hj
      rcases (show j = 0 ∨ j = 1 ∨ j = 2 ∨ j = 3 ∨ j = 4 ∨ j = 5 by omega) with rfl | rfl | rfl | rfl | rfl | rfl
      · exact he0
      · exact he1
      · exact he2
      · exact he3
      · exact he4
      · exact he5)
    (fun i j hi hj hne => absurd (show i = j by omega) hne) hA
  have hS1 : vk_S 1 [6] [[62, 47, 61, 126, 35, 42]] (fun _ => adK 0) (fun _ => adV 0) (fun q => s.heap.size ≤ q) s s.heap := ⟨fun i hi => by have e0 : i = 0 := (by omega); subst e0; exact hS.1 0 (by omega), fun i j hi hj _ => by omega⟩
  have hZ := va_Zof (C := "java/lang/String") (A := fun q => s.heap.size ≤ q) (hts _ (tmI tm2 (i := 87) rfl)) (h2 _ (wm wl_11 (i := 6) rfl)) (va_eqt hcs) hA
  refine ⟨((dC, dI), s.heap.size, (cI, cC, cR, cH), (adK 0, adV 0)), rfl, ⟨⟨hKc, ?_⟩, fun w hw => va_Nw.of (fNb_on (List.all_eq_true.mp fNest_all w hw)) (hts w (nest_in w hw)), va_AO.of aR, va_AO.of aH, vk_R.of (hts _ (tmI tm2 (i := 73) rfl)) (hev 0 (by omega))⟩, hS1.narrow (fun q h => h), hZ.narrow (fun q h => h)⟩
  intro k q hq
  match k, hq with
  | 0, hq => cases hq; exact ⟨fun n z => ⟨fun k h => (by cases h), kI, fI2, pI, fI3⟩, fI1⟩
  | 1, hq => cases hq; exact ⟨fun n z => ⟨fun k h => (by cases h), kC, fC2, pC, fC3⟩, fC1⟩
  | 2, hq => cases hq; exact ⟨fun n z => ⟨fun k h => (by cases h), kR, rR3, pR, rR4⟩, kR, pR, rR3, rR4, rR1, rR5⟩
  | 3, hq => cases hq; exact ⟨fun n z => ⟨fun k h => (by cases h), kH, rH3, pH, rH4⟩, kH, pH, rH3, rH4, rH1, rH5⟩
  | k + 4, hq => simp [fT] at hq
section LWL
variable {p : Program} {l : Launch} {e : Env} {s : State} {m : MethodId} {below : List Frame} {meth : Method} {c : Code} {H : Heap} {locs : List Loc} {Q : State → Prop} {b L : Nat} {xs : Nat → Int32} {ls : Array Slot} {g : fG} {ct : Nat → va_E} {i : Nat}
set_option maxRecDepth 100000 in
set_option maxHeartbeats 4000000 in
theorem lw_head (E : fE p m c cL_law 4 s #[.ref b] RL g) (hX : va_X b L xs s s.heap) (hbl : b < s.heap.size) (hbA : ¬ fB g b) (hL : L ≤ 2560) (hS : va_S (fB g) s.heap H locs) (hi : i ≤ 3000) (hl : lv_has ls 4 [(0, .ref b), (1, .ref (fa g 0)), (2, .ref (fa g 239)), (3, .int (nI i))]) (K1 : ¬ i + 5 ≤ L → W p l e room_1 s m #[.ref b] below meth c H locs 249 2736 Q (F0 m 845 ls [])) (K2 : i + 5 ≤ L → W p l e room_1 s m #[.ref b] below meth c H locs 249 2736 Q (F0 m 32 ls [.int (xs (nI i).toNatClampNeg &&& nI 31)])) : W p l e room_1 s m #[.ref b] below meth c H locs 249 2736 Q (F0 m 18 ls []) := by
  have hx := E.1.1
  have hb := E.1.2.1
  refine lv_iload_n hx hb dL_law_18 rfl (lv_at hl 3 rfl) ?_
  refine lv_aload_n hx hb dL_law_19 rfl (lv_at hl 0 rfl) ?_
  refine va_slen hx hb hX hbl hbA hS dL_law_20 ?_
  refine fs_vi (y := nI L) rfl ?_
  refine lv_iconst (v := (nI 5)) hx hb dL_law_21 (by decide) ?_
  refine lv_isub hx hb dL_law_22 ?_
  refine lv_icmp_gt (tgt := 845) hx hb dL_law_23 (by decide) (fun c_23 => ?_) (fun c_23 => ?_)
  · exact K1 ((lw_le hL hi).mp c_23)
  · have hi5 : i + 5 ≤ L := Classical.byContradiction (fun y => c_23 ((lw_le hL hi).mpr y))
    refine lv_aload_n hx hb dL_law_26 rfl (lv_at hl 0 rfl) ?_
    refine lv_iload_n hx hb dL_law_27 rfl (lv_at hl 3 rfl) ?_
    refine va_sld hx hb hX hbl hbA hS (vp_in_nI (by omega) (by omega)) dL_law_28 ?_
    refine lv_bipush (v := (nI 31)) hx hb dL_law_29 (by decide) ?_
    refine lv_iand hx hb dL_law_31 ?_
    exact K2 hi5
set_option maxRecDepth 100000 in
set_option maxHeartbeats 4000000 in
theorem lw_table (E : fE p m c cL_law 4 s #[.ref b] RL g) (hX : va_X b L xs s s.heap) (hbl : b < s.heap.size) (hbA : ¬ fB g b) (hL : L ≤ 2560) (hJ : lw_J g ct) (hP : fP g 249 ct H) (hS : va_S (fB g) s.heap H locs) (hi : i + 5 ≤ L) (hl : lv_has ls 4 [(0, .ref b), (1, .ref (fa g 0)), (2, .ref (fa g 239)), (3, .int (nI i))]) (K : ∀ (ct1 : Nat → va_E) (H1 : Heap) (locs1 : List Loc) (ls1 : Array Slot), lw_J g ct1 → fP g 249 ct1 H1 → va_S (fB g) s.heap H1 locs1 → lv_has ls1 4 [(0, .ref b), (1, .ref (fa g 0)), (2, .ref (fa g 239)), (3, .int (nI i))] → W p l e room_1 s m #[.ref b] below meth c H1 locs1 249 2736 Q (F0 m 839 ls1 [])) {x : Int32} : W p l e room_1 s m #[.ref b] below meth c H locs 249 2736 Q (F0 m 32 ls [.int x]) := by
  have hx := E.1.1
  have hb := E.1.2.1
  by_cases k_0 : x = nI 0
  · refine fs_vi k_0 ?_
    refine lv_tableIn (off := 116) (tgt := 148) hx hb dL_law_32 (by decide) (by decide) rfl (by decide) ?_
    exact lw_c0 E hX hbl hbA hL hJ hP hS hi hl K
  by_cases k_1 : x = nI 1
  · refine fs_vi k_1 ?_
    refine lv_tableIn (off := 139) (tgt := 171) hx hb dL_law_32 (by decide) (by decide) rfl (by decide) ?_
    exact lw_c1 E hX hbl hbA hL hJ hP hS hi hl K
  by_cases k_2 : x = nI 2
  · refine fs_vi k_2 ?_
    refine lv_tableIn (off := 172) (tgt := 204) hx hb dL_law_32 (by decide) (by decide) rfl (by decide) ?_
    exact lw_c2 E hX hbl hbA hL hJ hP hS hi hl K
  by_cases k_3 : x = nI 3
  · refine fs_vi k_3 ?_
    refine lv_tableIn (off := 225) (tgt := 257) hx hb dL_law_32 (by decide) (by decide) rfl (by decide) ?_
    exact lw_c3 E hX hbl hbA hL hJ hP hS hi hl K
  by_cases k_4 : x = nI 4
  · refine fs_vi k_4 ?_
    refine lv_tableIn (off := 238) (tgt := 270) hx hb dL_law_32 (by decide) (by decide) rfl (by decide) ?_
    exact lw_c4 E hX hbl hbA hL hJ hP hS hi hl K
  by_cases k_5 : x = nI 5
  · refine fs_vi k_5 ?_
    refine lv_tableIn (off := 287) (tgt := 319) hx hb dL_law_32 (by decide) (by decide) rfl (by decide) ?_
    exact lw_c5 E hX hbl hbA hL hJ hP hS hi hl K
  by_cases k_6 : x = nI 6
  · refine fs_vi k_6 ?_
    refine lv_tableIn (off := 300) (tgt := 332) hx hb dL_law_32 (by decide) (by decide) rfl (by decide) ?_
    exact lw_c6 E hX hbl hbA hL hJ hP hS hi hl K
  by_cases k_7 : x = nI 7
  · refine fs_vi k_7 ?_
    refine lv_tableIn (off := 323) (tgt := 355) hx hb dL_law_32 (by decide) (by decide) rfl (by decide) ?_
    exact lw_c7 E hX hbl hbA hL hJ hP hS hi hl K
  by_cases k_8 : x = nI 8
  · refine fs_vi k_8 ?_
    refine lv_tableIn (off := 366) (tgt := 398) hx hb dL_law_32 (by decide) (by decide) rfl (by decide) ?_
    exact lw_c8 E hX hbl hbA hL hJ hP hS hi hl K
  by_cases k_9 : x = nI 9
  · refine fs_vi k_9 ?_
    refine lv_tableIn (off := 379) (tgt := 411) hx hb dL_law_32 (by decide) (by decide) rfl (by decide) ?_
    exact lw_c9 E hX hbl hbA hL hJ hP hS hi hl K
  by_cases k_10 : x = nI 10
  · refine fs_vi k_10 ?_
    refine lv_tableIn (off := 412) (tgt := 444) hx hb dL_law_32 (by decide) (by decide) rfl (by decide) ?_
    exact lw_c10 E hX hbl hbA hL hJ hP hS hi hl K
  by_cases k_11 : x = nI 11
  · refine fs_vi k_11 ?_
    refine lv_tableIn (off := 445) (tgt := 477) hx hb dL_law_32 (by decide) (by decide) rfl (by decide) ?_
    exact lw_c11 E hX hbl hbA hL hJ hP hS hi hl K
  by_cases k_12 : x = nI 12
  · refine fs_vi k_12 ?_
    refine lv_tableIn (off := 468) (tgt := 500) hx hb dL_law_32 (by decide) (by decide) rfl (by decide) ?_
    exact lw_c12 E hX hbl hbA hL hJ hP hS hi hl K
  by_cases k_13 : x = nI 13
  · refine fs_vi k_13 ?_
    refine lv_tableIn (off := 501) (tgt := 533) hx hb dL_law_32 (by decide) (by decide) rfl (by decide) ?_
    exact lw_c13 E hX hbl hbA hL hJ hP hS hi hl K
  by_cases k_14 : x = nI 14
  · refine fs_vi k_14 ?_
    refine lv_tableIn (off := 524) (tgt := 556) hx hb dL_law_32 (by decide) (by decide) rfl (by decide) ?_
    exact lw_c14 E hX hbl hbA hL hJ hP hS hi hl K
  by_cases k_15 : x = nI 15
  · refine fs_vi k_15 ?_
    refine lv_tableIn (off := 557) (tgt := 589) hx hb dL_law_32 (by decide) (by decide) rfl (by decide) ?_
    exact lw_c15 E hX hbl hbA hL hJ hP hS hi hl K
  by_cases k_16 : x = nI 16
  · refine fs_vi k_16 ?_
    refine lv_tableIn (off := 600) (tgt := 632) hx hb dL_law_32 (by decide) (by decide) rfl (by decide) ?_
    exact lw_c16 E hX hbl hbA hL hJ hP hS hi hl K
  by_cases k_17 : x = nI 17
  · refine fs_vi k_17 ?_
    refine lv_tableIn (off := 623) (tgt := 655) hx hb dL_law_32 (by decide) (by decide) rfl (by decide) ?_
    exact lw_c17 E hX hbl hbA hL hJ hP hS hi hl K
  by_cases k_18 : x = nI 18
  · refine fs_vi k_18 ?_
    refine lv_tableIn (off := 646) (tgt := 678) hx hb dL_law_32 (by decide) (by decide) rfl (by decide) ?_
    exact lw_c18 E hX hbl hbA hL hJ hP hS hi hl K
  by_cases k_19 : x = nI 19
  · refine fs_vi k_19 ?_
    refine lv_tableIn (off := 669) (tgt := 701) hx hb dL_law_32 (by decide) (by decide) rfl (by decide) ?_
    exact lw_c19 E hX hbl hbA hL hJ hP hS hi hl K
  by_cases k_20 : x = nI 20
  · refine fs_vi k_20 ?_
    refine lv_tableIn (off := 722) (tgt := 754) hx hb dL_law_32 (by decide) (by decide) rfl (by decide) ?_
    exact lw_c20 E hX hbl hbA hL hJ hP hS hi hl K
  by_cases k_21 : x = nI 21
  · refine fs_vi k_21 ?_
    refine lv_tableIn (off := 735) (tgt := 767) hx hb dL_law_32 (by decide) (by decide) rfl (by decide) ?_
    exact lw_c21 E hX hbl hbA hL hJ hP hS hi hl K
  by_cases k_22 : x = nI 22
  · refine fs_vi k_22 ?_
    refine lv_tableIn (off := 748) (tgt := 780) hx hb dL_law_32 (by decide) (by decide) rfl (by decide) ?_
    exact lw_c22 E hX hbl hbA hL hJ hP hS hi hl K
  by_cases k_23 : x = nI 23
  · refine fs_vi k_23 ?_
    refine lv_tableIn (off := 761) (tgt := 793) hx hb dL_law_32 (by decide) (by decide) rfl (by decide) ?_
    exact lw_c23 E hX hbl hbA hL hJ hP hS hi hl K
  by_cases k_24 : x = nI 24
  · refine fs_vi k_24 ?_
    refine lv_tableIn (off := 784) (tgt := 816) hx hb dL_law_32 (by decide) (by decide) rfl (by decide) ?_
    exact lw_c24 E hX hbl hbA hL hJ hP hS hi hl K
  refine lv_tableOut (tgt := 839) hx hb dL_law_32 (ftab_0_24 k_0 k_1 k_2 k_3 k_4 k_5 k_6 k_7 k_8 k_9 k_10 k_11 k_12 k_13 k_14 k_15 k_16 k_17 k_18 k_19 k_20 k_21 k_22 k_23 k_24) (by decide) ?_
  exact K _ _ _ _ hJ hP hS hl
set_option maxRecDepth 100000 in
set_option maxHeartbeats 4000000 in
theorem lw_loop (E : fE p m c cL_law 4 s #[.ref b] RL g) (hX : va_X b L xs s s.heap) (hbl : b < s.heap.size) (hbA : ¬ fB g b) (hL : L ≤ 2560) (KE : ∀ (H1 : Heap) (locs1 : List Loc) (ls1 : Array Slot), va_S (fB g) s.heap H1 locs1 → W p l e room_1 s m #[.ref b] below meth c H1 locs1 249 2736 Q (F0 m 845 ls1 [])) : ∀ (n i : Nat) (ct : Nat → va_E) (H : Heap) (locs : List Loc) (ls : Array Slot), i ≤ L + 4 → L + 5 ≤ i + n → lw_J g ct → fP g 249 ct H → va_S (fB g) s.heap H locs → lv_has ls 4 [(0, .ref b), (1, .ref (fa g 0)), (2, .ref (fa g 239)), (3, .int (nI i))] → W p l e room_1 s m #[.ref b] below meth c H locs 249 2736 Q (F0 m 18 ls []) := by
  intro n
  have hx := E.1.1
  have hb := E.1.2.1
  induction n with
  | zero => intro i ct H locs ls h1 h2; exact absurd h2 (by omega)
  | succ n ih =>
    intro i ct H locs ls h1 h2 hJ hP hS hl
    refine lw_head E hX hbl hbA hL hS (by omega) hl (fun _ => KE _ _ _ hS) (fun hi => ?_)
    refine lw_table E hX hbl hbA hL hJ hP hS hi hl (fun ct1 H1 locs1 ls1 hJ1 hP1 hS1 hl1 => ?_)
    refine lv_iinc (v := nI (i + 5)) (lv' := [(3, .int (nI (i + 5))), (0, .ref b), (1, .ref (fa g 0)), (2, .ref (fa g 239))]) hx hb dL_law_839 hl1 (k := 3) rfl (show nI i + 5 = nI (i + 5) from nI_add i 5) (by decide) rfl (fun ls2 hl2 => ?_)
    refine lv_goto (tgt := 18) hx hb dL_law_842 (by decide) ?_
    exact ih (i + 5) ct1 H1 locs1 ls2 (by omega) (by omega) hJ1 hP1 hS1 (lv_sub hl2 [1, 2, 3, 0] rfl)
set_option maxRecDepth 100000 in
set_option maxHeartbeats 4000000 in
theorem lw_main (E : fE p m c cL_law 4 s #[.ref b] RL g) (hX : va_X b L xs s s.heap) (hbl : b < s.heap.size) (hbA : ¬ fB g b) (hL : L ≤ 2560) (hP : fP g 0 ct s.heap) (hl : lv_has ls 4 [(0, .ref b)]) (KE : ∀ (H1 : Heap) (locs1 : List Loc) (ls1 : Array Slot), va_S (fB g) s.heap H1 locs1 → W p l e room_1 s m #[.ref b] below meth c H1 locs1 249 2736 Q (F0 m 845 ls1 [])) : W p l e room_1 s m #[.ref b] below meth c s.heap [] 0 0 Q (F0 m 0 ls []) := by
  have hx := E.1.1
  have hb := E.1.2.1
  have hS : va_S (fB g) s.heap s.heap [] := va_S.rf
  refine fs_new E (N := 0) (fs := [.null, .null, .null, .null, .null, .null, .int 0]) hP hS fc7 (wm wl_1 (i := 0) rfl) (wm wl_1 (i := 1) rfl) (wm wl_1 (i := 2) rfl) (by decide) (Nat.le_of_ble_eq_true rfl) (Nat.le_of_ble_eq_true rfl) dL_law_0 (fun ct_1 H q_2 hP hS => ?_)
  have h_3 : ct_1 0 = .inr (7, [.null, .null, .null, .null, .null, .null, .int 0]) := by rw [q_2]; exact fu_eq _ _ _
  refine lv_dup hx hb dL_law_3 rfl ?_
  refine fs_v (va_runI (As := []) (rest := [.ref (fa g 0)]) E.1 (c_X7_init l g 1 ct_1 rfl h_3) (lk_RL_9 E.1.2.2.2.2 ⟨Nat.le_of_ble_eq_true rfl, Nat.le_of_ble_eq_true rfl⟩) (fpreS E hP hS) rfl rfl hl.1 rfl (lv_room (Nat.le_of_ble_eq_true rfl)) dL_law_4 ⟨(Nat.le_of_ble_eq_true rfl), (Nat.le_of_ble_eq_true rfl)⟩) hS (fun ct_4 H locs p_4 hP hS => ?_)
  refine lv_astore_n (lv' := [(1, .ref (fa g 0)), (0, .ref b)]) hx hb dL_law_7 rfl hl (by decide) rfl (fun ls hl => ?_)
  refine fs_new E (N := 239) (fs := [.null, .null, .int 0, .null, .null, .null, .int 0, .null, .int 0, .null, .null, .null, .int 0, .int 0, .int 0, .int 0, .int 0, .int 0, .int 0]) hP hS fc8 (wm wl_1 (i := 3) rfl) (wm wl_1 (i := 4) rfl) (wm wl_1 (i := 5) rfl) (by decide) (Nat.le_of_ble_eq_true rfl) (Nat.le_of_ble_eq_true rfl) dL_law_8 (fun ct_5 H q_6 hP hS => ?_)
  have h_7 : ct_5 239 = .inr (8, [.null, .null, .int 0, .null, .null, .null, .int 0, .null, .int 0, .null, .null, .null, .int 0, .int 0, .int 0, .int 0, .int 0, .int 0, .int 0]) := by rw [q_6]; exact fu_eq _ _ _
  have hO1 := OGAt.keep (ct1 := ct_5) p_4 (fun j h1 => by rw [q_6]; exact fu_ne (by omega))
  refine lv_dup hx hb dL_law_11 rfl ?_
  refine fs_v (va_runI (As := []) (rest := [.ref (fa g 239)]) E.1 (c_X8_init l g 240 ct_5 rfl h_7) (lk_RL_12 E.1.2.2.2.2 ⟨Nat.le_of_ble_eq_true rfl, Nat.le_of_ble_eq_true rfl⟩) (fpreS E hP hS) rfl rfl hl.1 rfl (lv_room (Nat.le_of_ble_eq_true rfl)) dL_law_12 ⟨(Nat.le_of_ble_eq_true rfl), (Nat.le_of_ble_eq_true rfl)⟩) hS (fun ct_8 H locs p_12 hP hS => ?_)
  have hO2 := OGAt.keep hO1 (fun j h1 => p_12.2 j (by omega))
  have hJ : lw_J g ct_8 := ⟨_, _, _, _, _, _, _, _, _, hO2, p_12.1⟩
  refine lv_astore_n (lv' := [(2, .ref (fa g 239)), (1, .ref (fa g 0)), (0, .ref b)]) hx hb dL_law_15 rfl hl (by decide) rfl (fun ls hl => ?_)
  refine lv_iconst (v := (nI 0)) hx hb dL_law_16 (by decide) ?_
  refine lv_istore_n (lv' := [(3, .int (nI 0)), (2, .ref (fa g 239)), (1, .ref (fa g 0)), (0, .ref b)]) hx hb dL_law_17 rfl hl (by decide) rfl (fun ls hl => ?_)
  exact lw_loop E hX hbl hbA hL KE (L + 5) 0 _ _ _ ls (by omega) (by omega) hJ hP hS (lv_sub hl [3, 2, 1, 0] rfl)
end LWL
