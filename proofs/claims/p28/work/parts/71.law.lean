theorem fNb_on {w : Cond} (h : fNb w = true) : w.onTables = true := by
  cases w <;> first | rfl | (exfalso; revert h; simp [fNb])
theorem nest_in : ∀ w ∈ fNest, w ∈ lw_tbl := List.forall_mem_cons.mpr ⟨(tmI tm1 (i := 32) rfl), List.forall_mem_cons.mpr ⟨(tmI tm1 (i := 33) rfl), List.forall_mem_cons.mpr ⟨(tmI tm1 (i := 35) rfl), List.forall_mem_cons.mpr ⟨(tmI tm1 (i := 37) rfl), List.forall_mem_cons.mpr ⟨(tmI tm1 (i := 39) rfl), List.forall_mem_cons.mpr ⟨(tmI tm1 (i := 41) rfl), List.forall_mem_cons.mpr ⟨(tmI tm1 (i := 42) rfl), List.forall_mem_cons.mpr ⟨(tmI tm1 (i := 56) rfl), List.forall_mem_cons.mpr ⟨(tmI tm1 (i := 57) rfl), List.forall_mem_cons.mpr ⟨(tmI tm1 (i := 59) rfl), List.forall_mem_cons.mpr ⟨(tmI tm1 (i := 61) rfl), List.forall_mem_cons.mpr ⟨(tmI tm1 (i := 62) rfl), List.forall_mem_cons.mpr ⟨(tmI tm1 (i := 64) rfl), List.forall_mem_cons.mpr ⟨(tmI tm1 (i := 66) rfl), List.forall_mem_cons.mpr ⟨(tmI tm1 (i := 68) rfl), List.forall_mem_cons.mpr ⟨(tmI tm1 (i := 96) rfl), List.forall_mem_cons.mpr ⟨(tmI tm1 (i := 126) rfl), List.forall_mem_cons.mpr ⟨(tmI tm1 (i := 147) rfl), List.forall_mem_cons.mpr ⟨(tmI tm1 (i := 157) rfl), List.forall_mem_cons.mpr ⟨(tmI tm1 (i := 159) rfl), List.forall_mem_cons.mpr ⟨(tmI tm1 (i := 161) rfl), List.forall_mem_cons.mpr ⟨(tmI tm1 (i := 164) rfl), List.forall_mem_cons.mpr ⟨(tmI tm1 (i := 166) rfl), List.forall_mem_cons.mpr ⟨(tmI tm1 (i := 27) rfl), List.forall_mem_cons.mpr ⟨(tmI tm1 (i := 107) rfl), List.forall_mem_cons.mpr ⟨(tmI tm1 (i := 121) rfl), List.forall_mem_cons.mpr ⟨(tmI tm1 (i := 135) rfl), List.forall_mem_cons.mpr ⟨(tmI tm1 (i := 141) rfl), List.forall_mem_cons.mpr ⟨(tmI tm1 (i := 154) rfl), List.forall_mem_cons.mpr ⟨(tmI tm1 (i := 189) rfl), List.forall_mem_cons.mpr ⟨(tmI tm1 (i := 234) rfl), List.forall_mem_cons.mpr ⟨(tmI tm2 (i := 66) rfl), List.forall_mem_cons.mpr ⟨(tmI tm2 (i := 89) rfl), List.forall_mem_cons.mpr ⟨(tmI tm2 (i := 90) rfl), List.forall_mem_cons.mpr ⟨(tmI tm2 (i := 97) rfl), List.forall_mem_cons.mpr ⟨(tmI tm2 (i := 98) rfl), List.forall_mem_cons.mpr ⟨(tmI tm2 (i := 107) rfl), List.forall_mem_cons.mpr ⟨(tmI tm2 (i := 108) rfl), List.forall_mem_cons.mpr ⟨(tmI tm2 (i := 160) rfl), List.forall_mem_cons.mpr ⟨(tmI tm3 (i := 44) rfl), (fun _ h => absurd h List.not_mem_nil)⟩⟩⟩⟩⟩⟩⟩⟩⟩⟩⟩⟩⟩⟩⟩⟩⟩⟩⟩⟩⟩⟩⟩⟩⟩⟩⟩⟩⟩⟩⟩⟩⟩⟩⟩⟩⟩⟩⟩⟩
set_option maxRecDepth 100000 in
set_option maxHeartbeats 4000000 in
theorem lw_start {s : State} {args : Array Value} {b L : Nat} {xs : Nat → Int32} (hts : ∀ w ∈ lw_tbl, w.before args s = true) (hX : va_X b L xs s s.heap) (hL : L ≤ 260) : ∃ g : fG, g.2.1 = s.heap.size ∧ sa g = b ∧ fV g s ∧ fX g s s.heap := by
  have h2 : ∀ w ∈ wsL_law, w.before args s = true := fun w h => hts w (wsL_law_in w h)
  obtain ⟨c0, i0, k0⟩ := u_known (C := RX0) (T := TX0) (N := 3) (n := 3) h2 fc0.2.1 (h2 _ (wm wl_1 (i := 15) rfl))
  obtain ⟨c1, i1, k1⟩ := u_known (C := RX1) (T := TX1) (N := 7) (n := 7) h2 fc1.2.1 (h2 _ (wm wl_1 (i := 11) rfl))
  obtain ⟨c2, i2, k2⟩ := u_known (C := RX2) (T := TX2) (N := 2) (n := 2) h2 fc2.2.1 (h2 _ (wm wl_2 (i := 0) rfl))
  obtain ⟨c3, i3, k3⟩ := u_known (C := RX3) (T := TX3) (N := 5) (n := 5) h2 fc3.2.1 (h2 _ (wm wl_2 (i := 16) rfl))
  obtain ⟨c4, i4, k4⟩ := u_known (C := RX4) (T := TX4) (N := 2) (n := 2) h2 fc4.2.1 (h2 _ (wm wl_1 (i := 19) rfl))
  obtain ⟨c5, i5, k5⟩ := u_known (C := RX5) (T := TX5) (N := 8) (n := 8) h2 fc5.2.1 (h2 _ (wm wl_2 (i := 4) rfl))
  obtain ⟨c6, i6, k6⟩ := u_known (C := RX6) (T := TX6) (N := 2) (n := 2) h2 fc6.2.1 (h2 _ (wm wl_3 (i := 19) rfl))
  obtain ⟨c7, i7, k7⟩ := u_known (C := RX7) (T := TX7) (N := 7) (n := 7) h2 fc7.2.1 (h2 _ (wm wl_1 (i := 1) rfl))
  obtain ⟨dC, dI, hKc⟩ : ∃ (dC : Nat → ClassId) (dI : Nat → Nat → Nat), ∀ (k : Nat) (q : vw_C), vwCl[k]? = some q → u_Kn s q.1 q.2.1 q.2.2 (dC k) (dI k) := by
    refine ⟨fun k => if k = 0 then c0 else if k = 1 then c1 else if k = 2 then c2 else if k = 3 then c3 else if k = 4 then c4 else if k = 5 then c5 else if k = 6 then c6 else c7, fun k => if k = 0 then i0 else if k = 1 then i1 else if k = 2 then i2 else if k = 3 then i3 else if k = 4 then i4 else if k = 5 then i5 else if k = 6 then i6 else i7, ?_⟩
    intro k q hq
    match k, hq with
    | 0, hq => cases hq; exact k0
    | 1, hq => cases hq; exact k1
    | 2, hq => cases hq; exact k2
    | 3, hq => cases hq; exact k3
    | 4, hq => cases hq; exact k4
    | 5, hq => cases hq; exact k5
    | 6, hq => cases hq; exact k6
    | 7, hq => cases hq; exact k7
    | k + 8, hq => simp at hq
  obtain ⟨cI, kI, pI, fI1, fI2, fI3⟩ := Cond.arrayClass_spec (h2 _ (wm wl_1 (i := 3) rfl))
  obtain ⟨cC, kC, pC, fC1, fC2, fC3⟩ := Cond.arrayClass_spec (h2 _ (wm wl_3 (i := 13) rfl))
  have aR : (Cond.arrayOver (.object RX3)).before args s = true := hts _ (tmI tm1 (i := 25) rfl)
  obtain ⟨pR, cR, kR, rR1, rR2, rR3, rR4, rR5⟩ := Cond.arrayOver_spec aR
  have aH : (Cond.arrayOver (.object RX1)).before args s = true := hts _ (tmI tm1 (i := 92) rfl)
  obtain ⟨pH, cH, kH, rH1, rH2, rH3, rH4, rH5⟩ := Cond.arrayOver_spec aH
  have hbl := hX.inside
  refine ⟨((dC, dI), s.heap.size, (cI, cC, cR, cH), (b, L)), rfl, rfl, ⟨⟨hKc, ?_⟩, fun w hw => va_Nw.of (fNb_on (List.all_eq_true.mp fNest_all w hw)) (hts w (nest_in w hw)), va_AO.of aR, va_AO.of aH⟩, ⟨fun h => Nat.lt_irrefl _ (Nat.lt_of_lt_of_le hbl h), hL⟩, xs, hX⟩
  intro k q hq
  match k, hq with
  | 0, hq => cases hq; exact ⟨fun n z => ⟨fun k h => (by cases h), kI, fI2, pI, fI3⟩, fI1⟩
  | 1, hq => cases hq; exact ⟨fun n z => ⟨fun k h => (by cases h), kC, fC2, pC, fC3⟩, fC1⟩
  | 2, hq => cases hq; exact ⟨fun n z => ⟨fun k h => (by cases h), kR, rR3, pR, rR4⟩, kR, pR, rR3, rR4, rR1, rR5⟩
  | 3, hq => cases hq; exact ⟨fun n z => ⟨fun k h => (by cases h), kH, rH3, pH, rH4⟩, kH, pH, rH3, rH4, rH1, rH5⟩
  | k + 4, hq => simp [fT] at hq
section LWL
variable {p : Program} {l : Launch} {e : Env} {s : State} {m : MethodId} {below : List Frame} {meth : Method} {c : Code} {H : Heap} {locs : List Loc} {Q : State → Prop} {b : Nat} {ls : Array Slot} {g : fG} {ct : Nat → va_E} {x y : Int32} {tn kc rI : Nat}
variable {σ : Nat → Int32} {k : Nat} {hs : Nat → Nat → Int32} {u1 : Bool} {s1 : Nat → Int32} {u2 : Bool} {s2 : Nat → Int32} {t : Nat → Nat} {len : Nat} {fl fsc fgu fr fq fw fc : Nat → Int32}
set_option maxRecDepth 100000 in
set_option maxHeartbeats 8000000 in
theorem lw_same (E : fE p m c cL_law 20 s #[.ref b] RL g) (hJ : JJ g ct) (hP : fP g 246 ct H) (hS : va_S (fB g) s.heap H locs) (hl : lv_has ls 20 [(0, .ref (sa g)), (1, .ref (fa g 0)), (2, .ref (fa g 239)), (3, .ref (fa g 240)), (4, .ref (fa g 241)), (5, .ref (fa g 242)), (6, .ref (fa g 243)), (7, .ref (fa g 244)), (8, .ref (fa g 245)), (9, .int (nI tn)), (11, .int y)]) (K2 : ∀ (ct1 : Nat → va_E) (H1 : Heap) (locs1 : List Loc) (ls1 : Array Slot), JJ g ct1 → fP g 246 ct1 H1 → va_S (fB g) s.heap H1 locs1 → lv_has ls1 20 [(0, .ref (sa g)), (1, .ref (fa g 0)), (2, .ref (fa g 239)), (3, .ref (fa g 240)), (4, .ref (fa g 241)), (5, .ref (fa g 242)), (6, .ref (fa g 243)), (7, .ref (fa g 244)), (8, .ref (fa g 245)), (9, .int (nI tn))] → W p l e room_1 s m #[.ref b] below meth c H1 locs1 246 1622 Q (F0 m 1147 ls1 [])) : W p l e room_1 s m #[.ref b] below meth c H locs 246 1622 Q (F0 m 1122 ls []) := by
  obtain ⟨σ, k, hs, u1, s1, u2, s2, t, len, fl, fsc, fgu, fr, fq, fw, fc, hO, h12, hRW, hRS, hcw, hcc⟩ := hJ
  have hx := E.1.1
  have hb := E.1.2.1
  have hN : 246 ≤ 246 := Nat.le_refl _
  have hG := hO.good
  have hn3 := hG.n3
  have hn6 := hG.n6
  have hM := hG.M
  obtain ⟨f7, h7⟩ := hO.obj
  obtain ⟨h39, h40, h41, h42, h43⟩ := hRW
  obtain ⟨⟨hq0, hq1, hQ3⟩, hL, hSc, hGu, hR⟩ := id hRS
  have hQ : fq 0 = nI (nB σ) ∧ fq 1 = nI (nT σ) := ⟨hq0, hq1⟩
  refine lv_aload_n hx hb dL_law_1122 rfl (lv_at hl 1 rfl) ?_
  refine lv_iload hx hb dL_law_1123 (lv_at hl 10 rfl) ?_
  refine lv_iconst (v := (nI 2)) hx hb dL_law_1125 (by decide) ?_
  refine lv_ishr hx hb dL_law_1126 ?_
  refine lv_aload hx hb dL_law_1127 (lv_at hl 6 rfl) ?_
  refine lv_aload_n hx hb dL_law_1129 rfl (lv_at hl 2 rfl) ?_
  refine lv_aload_n hx hb dL_law_1130 rfl (lv_at hl 3 rfl) ?_
  refine lv_aload hx hb dL_law_1131 (lv_at hl 4 rfl) ?_
  refine lv_aload hx hb dL_law_1133 (lv_at hl 5 rfl) ?_
  refine lv_aload hx hb dL_law_1135 (lv_at hl 7 rfl) ?_
  refine lv_aload hx hb dL_law_1137 (lv_at hl 8 rfl) ?_
  refine fs_i (va_runS (As := [.ref (fa g 0), .int (y >>> ((nI 2) &&& 31)), .ref (fa g 243), .ref (fa g 239), .ref (fa g 240), .ref (fa g 241), .ref (fa g 242), .ref (fa g 244), .ref (fa g 245)]) (rest := []) E.1 (c_L_same l g 246 ct σ k hs u1 s1 u2 s2 t len (by omega) hO h12 fr h42 hR fq h43 hQ hQ3 fl h39 hL fsc h40 hSc fgu h41 hGu fw hcw fc hcc (y >>> ((nI 2) &&& 31))) (lk_RL_110 E.1.2.2.2.2 ⟨Nat.le_of_ble_eq_true rfl, Nat.le_of_ble_eq_true rfl⟩) (fpreS E hP hS) rfl rfl hl.1 rfl (lv_room (Nat.le_of_ble_eq_true rfl)) dL_law_1139 ⟨(Nat.le_of_ble_eq_true rfl), (Nat.le_of_ble_eq_true rfl)⟩) hS (fun r_1139 ct_1 H locs p_1139 hP hS => ?_)
  obtain ⟨p1, hO2, hRW2, ⟨fw2, hw2⟩, fc2, hc2⟩ := p_1139
  refine fs_vi (y := (nI 1)) p1 ?_
  refine lv_if_ne (tgt := 1147) hx hb dL_law_1142 (by decide) (fun c_1142 => ?_) (fun c_1142 => ?_)
  rotate_left
  · exact absurd c_1142 (by decide)
  exact K2 _ _ _ _ ⟨_, _, _, _, _, _, _, _, _, _, _, _, _, _, _, _, hO2, h12, hRW2, hRS, hw2, hc2⟩ hP hS (lv_sub hl [0, 1, 2, 3, 4, 5, 6, 7, 8, 9] rfl)
set_option maxRecDepth 100000 in
set_option maxHeartbeats 8000000 in
theorem lw_act (E : fE p m c cL_law 20 s #[.ref b] RL g) (hJ : JJ g ct) (hP : fP g 246 ct H) (hS : va_S (fB g) s.heap H locs) (hl : lv_has ls 20 [(0, .ref (sa g)), (1, .ref (fa g 0)), (2, .ref (fa g 239)), (3, .ref (fa g 240)), (4, .ref (fa g 241)), (5, .ref (fa g 242)), (6, .ref (fa g 243)), (7, .ref (fa g 244)), (8, .ref (fa g 245)), (9, .int (nI tn))]) (htn : tn < 20) (K2 : ∀ (ct1 : Nat → va_E) (H1 : Heap) (locs1 : List Loc) (ls1 : Array Slot), JJ g ct1 → fP g 246 ct1 H1 → va_S (fB g) s.heap H1 locs1 → lv_has ls1 20 [(0, .ref (sa g)), (1, .ref (fa g 0)), (2, .ref (fa g 239)), (3, .ref (fa g 240)), (4, .ref (fa g 241)), (5, .ref (fa g 242)), (6, .ref (fa g 243)), (7, .ref (fa g 244)), (8, .ref (fa g 245)), (9, .int (nI tn))] → W p l e room_1 s m #[.ref b] below meth c H1 locs1 246 1622 Q (F0 m 1147 ls1 [])) : W p l e room_1 s m #[.ref b] below meth c H locs 246 1622 Q (F0 m 127 ls []) := by
  obtain ⟨σ, k, hs, u1, s1, u2, s2, t, len, fl, fsc, fgu, fr, fq, fw, fc, hO, h12, hRW, hRS, hcw, hcc⟩ := hJ
  have hRW0 := hRW
  have hx := E.1.1
  have hb := E.1.2.1
  have hN : 246 ≤ 246 := Nat.le_refl _
  have hG := hO.good
  have hn3 := hG.n3
  have hn6 := hG.n6
  have hM := hG.M
  obtain ⟨f7, h7⟩ := hO.obj
  obtain ⟨h39, h40, h41, h42, h43⟩ := id hRW
  obtain ⟨⟨hq0, hq1, hQ3⟩, hL, hSc, hGu, hR⟩ := id hRS
  have hQ : fq 0 = nI (nB σ) ∧ fq 1 = nI (nT σ) := ⟨hq0, hq1⟩
  refine lv_aload_n hx hb dL_law_127 rfl (lv_at hl 0 rfl) ?_
  refine lv_iconst (v := (nI 1)) hx hb dL_law_128 (by decide) ?_
  refine lv_iconst (v := (nI 2)) hx hb dL_law_129 (by decide) ?_
  refine lv_iload hx hb dL_law_130 (lv_at hl 9 rfl) ?_
  refine lv_imul hx hb dL_law_132 ?_
  refine fs_vi (y := nI (2 * tn)) (pk_mul _ _) ?_
  refine lv_iadd hx hb dL_law_133 ?_
  refine fs_vi (y := nI (1 + 2 * tn)) (nI_add _ _) ?_
  refine fs_pi (va_runS (As := [.ref (sa g), .int (nI (1 + 2 * tn))]) (rest := []) E.1 (c_L_cell l g 246 ct (1 + 2 * tn) (by omega)) (lk_RL_79 E.1.2.2.2.2 ⟨Nat.le_of_ble_eq_true rfl, Nat.le_of_ble_eq_true rfl⟩) (fpreS E hP hS) rfl rfl hl.1 rfl (lv_room (Nat.le_of_ble_eq_true rfl)) dL_law_134 ⟨(Nat.le_of_ble_eq_true rfl), (Nat.le_of_ble_eq_true rfl)⟩) hS (fun r_134 locs p_134 hS => ?_)
  refine lv_istore (lv' := [(10, .int r_134), (0, .ref (sa g)), (1, .ref (fa g 0)), (2, .ref (fa g 239)), (3, .ref (fa g 240)), (4, .ref (fa g 241)), (5, .ref (fa g 242)), (6, .ref (fa g 243)), (7, .ref (fa g 244)), (8, .ref (fa g 245)), (9, .int (nI tn))]) hx hb dL_law_137 hl (by decide) rfl (fun ls hl => ?_)
  refine lv_aload_n hx hb dL_law_139 rfl (lv_at hl 1 rfl) ?_
  refine lv_iconst (v := (nI 2)) hx hb dL_law_140 (by decide) ?_
  refine lv_iconst (v := (nI 2)) hx hb dL_law_141 (by decide) ?_
  refine lv_iload hx hb dL_law_142 (lv_at hl 10 rfl) ?_
  refine lv_imul hx hb dL_law_144 ?_
  refine fs_vi (y := nI (2 * tn)) (pk_mul _ _) ?_
  refine lv_iadd hx hb dL_law_145 ?_
  refine fs_vi (y := nI (2 + 2 * tn)) (nI_add _ _) ?_
  refine fs_pi (va_runS (As := [.ref (sa g), .int (nI (2 + 2 * tn))]) (rest := []) E.1 (c_L_cell l g 246 ct (2 + 2 * tn) (by omega)) (lk_RL_79 E.1.2.2.2.2 ⟨Nat.le_of_ble_eq_true rfl, Nat.le_of_ble_eq_true rfl⟩) (fpreS E hP hS) rfl rfl hl.1 rfl (lv_room (Nat.le_of_ble_eq_true rfl)) dL_law_146 ⟨(Nat.le_of_ble_eq_true rfl), (Nat.le_of_ble_eq_true rfl)⟩) hS (fun r_146 locs p_146 hS => ?_)
  refine lv_istore (lv' := [(11, .int r_146), (10, .int r_134), (0, .ref (sa g)), (1, .ref (fa g 0)), (2, .ref (fa g 239)), (3, .ref (fa g 240)), (4, .ref (fa g 241)), (5, .ref (fa g 242)), (6, .ref (fa g 243)), (7, .ref (fa g 244)), (8, .ref (fa g 245)), (9, .int (nI tn))]) hx hb dL_law_149 hl (by decide) rfl (fun ls hl => ?_)
  refine fs_cutN (g := g) (fun kc => kc < 10) (fun kc => F0 m 168 ls [.int (nI kc)]) (fun kc locs hkc hS => ?_) (fun K_168 => ?_)
  · have hkc9 := hkc
    refine lv_istore (lv' := [(12, .int (nI kc)), (11, .int r_146), (10, .int r_134), (0, .ref (sa g)), (1, .ref (fa g 0)), (2, .ref (fa g 239)), (3, .ref (fa g 240)), (4, .ref (fa g 241)), (5, .ref (fa g 242)), (6, .ref (fa g 243)), (7, .ref (fa g 244)), (8, .ref (fa g 245)), (9, .int (nI tn))]) hx hb dL_law_168 hl (by decide) rfl (fun ls hl => ?_)
    refine fs_cutN (g := g) (fun rI => (nT σ = 0 → rI = 0) ∧ (nT σ ≠ 0 → rI < nT σ)) (fun rI => F0 m 192 ls [.int (nI rI)]) (fun rI locs hrI hS => ?_) (fun K_192 => ?_)
    · have hrI9 := hrI
      refine lv_istore (lv' := [(13, .int (nI rI)), (12, .int (nI kc)), (11, .int r_146), (10, .int r_134), (0, .ref (sa g)), (1, .ref (fa g 0)), (2, .ref (fa g 239)), (3, .ref (fa g 240)), (4, .ref (fa g 241)), (5, .ref (fa g 242)), (6, .ref (fa g 243)), (7, .ref (fa g 244)), (8, .ref (fa g 245)), (9, .int (nI tn))]) hx hb dL_law_192 hl (by decide) rfl (fun ls hl => ?_)
      refine lv_iload hx hb dL_law_194 (lv_at hl 1 rfl) ?_
      refine lv_iconst (v := (nI 3)) hx hb dL_law_196 (by decide) ?_
      refine lv_icmp_ge (tgt := 397) hx hb dL_law_197 (by decide) (fun c_197 => ?_) (fun c_197 => ?_)
      · rw [nI_leI (by omega) (by omega)] at c_197
        refine lv_iload hx hb dL_law_397 (lv_at hl 1 rfl) ?_
        refine lv_bipush (v := (nI 6)) hx hb dL_law_399 (by decide) ?_
        refine lv_icmp_ge (tgt := 549) hx hb dL_law_401 (by decide) (fun c_401 => ?_) (fun c_401 => ?_)
        · rw [nI_leI (by omega) (by omega)] at c_401
          refine lv_iload hx hb dL_law_549 (lv_at hl 1 rfl) ?_
          refine lv_bipush (v := (nI 6)) hx hb dL_law_551 (by decide) ?_
          refine lv_icmp_ne (tgt := 647) hx hb dL_law_553 (by decide) (fun c_553 => ?_) (fun c_553 => ?_)
          · rw [nI_eq (by omega) (by omega)] at c_553
            refine lv_iload hx hb dL_law_647 (lv_at hl 1 rfl) ?_
            refine lv_bipush (v := (nI 7)) hx hb dL_law_649 (by decide) ?_
            refine lv_icmp_ne (tgt := 867) hx hb dL_law_651 (by decide) (fun c_651 => ?_) (fun c_651 => ?_)
            · rw [nI_eq (by omega) (by omega)] at c_651
              refine lv_iload hx hb dL_law_867 (lv_at hl 1 rfl) ?_
              refine lv_bipush (v := (nI 8)) hx hb dL_law_869 (by decide) ?_
              refine lv_icmp_ne (tgt := 936) hx hb dL_law_871 (by decide) (fun c_871 => ?_) (fun c_871 => ?_)
              · rw [nI_eq (by omega) (by omega)] at c_871
                refine lv_iload hx hb dL_law_936 (lv_at hl 2 rfl) ?_
                refine lv_iconst (v := (nI 2)) hx hb dL_law_938 (by decide) ?_
                refine fs_pi (va_runS (As := [.int r_146, .int (nI 2)]) (rest := []) E.1 (c_L_low l g 246 ct r_146 2 (by omega) (by omega)) (lk_RL_68 E.1.2.2.2.2 ⟨Nat.le_of_ble_eq_true rfl, Nat.le_of_ble_eq_true rfl⟩) (fpreS E hP hS) rfl rfl hl.1 rfl (lv_room (Nat.le_of_ble_eq_true rfl)) dL_law_939 ⟨(Nat.le_of_ble_eq_true rfl), (Nat.le_of_ble_eq_true rfl)⟩) hS (fun r_939 locs p_939 hS => ?_)
                obtain ⟨v9, hv9, rfl⟩ := p_939
                refine lv_if_ne (tgt := 1027) hx hb dL_law_942 (by decide) (fun c_942 => ?_) (fun c_942 => ?_)
                · rw [fz_eqN (by omega)] at c_942
                  exact lw_endAct E hO h12 hRW hRS hcw hcc hP hS hrI (lv_sub hl [4, 5, 6, 7, 8, 9, 10, 11, 12, 13, 3, 2, 1, 0] rfl) (fun ct1 H1 locs1 ls1 hJ1 hP1 hS1 hl1 => lw_same E hJ1 hP1 hS1 hl1 K2)
                · rw [fz_eqN (by omega)] at c_942
                  exact lw_reveal E hO h12 hRW hRS hcw hcc hP hS hrI (lv_sub hl [4, 5, 6, 7, 8, 9, 10, 11, 12, 13, 3, 2, 1, 0] rfl) (fun ct1 H1 locs1 ls1 hJ1 hP1 hS1 hl1 => lw_same E hJ1 hP1 hS1 hl1 K2)
              · rw [nI_eq (by omega) (by omega)] at c_871
                exact lw_look E hO h12 hRW hRS hcw hcc hP hS hrI (lv_sub hl [4, 5, 6, 7, 8, 9, 10, 11, 12, 13, 3, 2, 1, 0] rfl) (fun ct1 H1 locs1 ls1 hJ1 hP1 hS1 hl1 => lw_same E hJ1 hP1 hS1 hl1 K2)
            · rw [nI_eq (by omega) (by omega)] at c_651
              exact lw_guess E hO h12 hRW hRS hcw hcc hP hS hrI (lv_sub hl [4, 5, 6, 7, 8, 9, 10, 11, 12, 13, 3, 2, 1, 0] rfl) (fun ct1 H1 locs1 ls1 hJ1 hP1 hS1 hl1 => lw_same E hJ1 hP1 hS1 hl1 K2)
          · rw [nI_eq (by omega) (by omega)] at c_553
            exact lw_doubt E hO h12 hRW hRS hcw hcc hP hS hrI (lv_sub hl [4, 5, 6, 7, 8, 9, 10, 11, 12, 13, 3, 2, 1, 0] rfl) (fun ct1 H1 locs1 ls1 hJ1 hP1 hS1 hl1 => lw_same E hJ1 hP1 hS1 hl1 K2)
        · rw [nI_leI (by omega) (by omega)] at c_401
          exact lw_prove E hO h12 hRW hRS hcw hcc hP hS hrI (lv_sub hl [4, 5, 6, 7, 8, 9, 10, 11, 12, 13, 3, 2, 1, 0] rfl) (fun ct1 H1 locs1 ls1 hJ1 hP1 hS1 hl1 => lw_same E hJ1 hP1 hS1 hl1 K2)
      · rw [nI_leI (by omega) (by omega)] at c_197
        exact lw_tell E hO h12 hRW hRS hcw hcc hP hS hrI (lv_sub hl [4, 5, 6, 7, 8, 9, 10, 11, 12, 13, 3, 2, 1, 0] rfl) (fun ct1 H1 locs1 ls1 hJ1 hP1 hS1 hl1 => lw_same E hJ1 hP1 hS1 hl1 K2) K2
    refine lv_aload hx hb dL_law_170 (lv_at hl 9 rfl) ?_
    refine lv_iconst (v := (nI 1)) hx hb dL_law_172 (by decide) ?_
    refine fs_iald E hP (k := 243) h43 (by omega) (vp_in_nI (by omega) (by omega)) dL_law_173 ?_
    refine fs_vi (y := fq 1) (congrArg fq (nI_clamp (by omega))) ?_
    refine fs_vi (y := (nI (nT σ))) hQ.2 ?_
    refine lv_if_ne (tgt := 181) hx hb dL_law_174 (by decide) (fun c_174 => ?_) (fun c_174 => ?_)
    · rw [fz_eqN (by omega)] at c_174
      refine lv_iload hx hb dL_law_181 (lv_at hl 2 rfl) ?_
      refine lv_iconst (v := (nI 4)) hx hb dL_law_183 (by decide) ?_
      refine lv_ishr hx hb dL_law_184 ?_
      refine lv_aload hx hb dL_law_185 (lv_at hl 9 rfl) ?_
      refine lv_iconst (v := (nI 1)) hx hb dL_law_187 (by decide) ?_
      refine fs_iald E hP (k := 243) h43 (by omega) (vp_in_nI (by omega) (by omega)) dL_law_188 ?_
      refine fs_vi (y := fq 1) (congrArg fq (nI_clamp (by omega))) ?_
      refine fs_vi (y := (nI (nT σ))) hQ.2 ?_
      refine fs_pi (va_runS (As := [.int (r_134 >>> ((nI 4) &&& 31)), .int (nI (nT σ))]) (rest := []) E.1 (c_L_low l g 246 ct (r_134 >>> ((nI 4) &&& 31)) (nT σ) (by omega) (by omega)) (lk_RL_68 E.1.2.2.2.2 ⟨Nat.le_of_ble_eq_true rfl, Nat.le_of_ble_eq_true rfl⟩) (fpreS E hP hS) rfl rfl hl.1 rfl (lv_room (Nat.le_of_ble_eq_true rfl)) dL_law_189 ⟨(Nat.le_of_ble_eq_true rfl), (Nat.le_of_ble_eq_true rfl)⟩) hS (fun r_189 locs p_189 hS => ?_)
      obtain ⟨r9, hr9, rfl⟩ := p_189
      exact K_192 r9 _ ⟨fun y => absurd y c_174, fun _ => hr9⟩ hS
    · rw [fz_eqN (by omega)] at c_174
      refine lv_iconst (v := (nI 0)) hx hb dL_law_177 (by decide) ?_
      refine lv_goto (tgt := 192) hx hb dL_law_178 (by decide) ?_
      exact K_192 0 _ ⟨fun _ => rfl, fun y => absurd c_174 y⟩ hS
  refine lv_iload hx hb dL_law_151 (lv_at hl 11 rfl) ?_
  refine lv_iconst (v := (nI 3)) hx hb dL_law_153 (by decide) ?_
  refine lv_icmp_ge (tgt := 161) hx hb dL_law_154 (by decide) (fun c_154 => ?_) (fun c_154 => ?_)
  · rw [nI_leI (by omega) (by omega)] at c_154
    refine lv_iload hx hb dL_law_161 (lv_at hl 1 rfl) ?_
    refine lv_bipush (v := (nI 10)) hx hb dL_law_163 (by decide) ?_
    refine fs_pi (va_runS (As := [.int r_134, .int (nI 10)]) (rest := []) E.1 (c_L_low l g 246 ct r_134 10 (by omega) (by omega)) (lk_RL_68 E.1.2.2.2.2 ⟨Nat.le_of_ble_eq_true rfl, Nat.le_of_ble_eq_true rfl⟩) (fpreS E hP hS) rfl rfl hl.1 rfl (lv_room (Nat.le_of_ble_eq_true rfl)) dL_law_165 ⟨(Nat.le_of_ble_eq_true rfl), (Nat.le_of_ble_eq_true rfl)⟩) hS (fun r_165 locs p_165 hS => ?_)
    obtain ⟨k9, hk9, rfl⟩ := p_165
    exact K_168 k9 _ hk9 hS
  · rw [nI_leI (by omega) (by omega)] at c_154
    refine lv_iconst (v := (nI 0)) hx hb dL_law_157 (by decide) ?_
    refine lv_goto (tgt := 168) hx hb dL_law_158 (by decide) ?_
    exact K_168 0 _ (by decide : 0 < 10) hS
set_option maxRecDepth 100000 in
set_option maxHeartbeats 8000000 in
theorem lw_loop (E : fE p m c cL_law 20 s #[.ref b] RL g) (KE : ∀ (H1 : Heap) (locs1 : List Loc) (ls1 : Array Slot), va_S (fB g) s.heap H1 locs1 → W p l e room_1 s m #[.ref b] below meth c H1 locs1 246 1622 Q (F0 m 1153 ls1 [])) : ∀ (n tn : Nat) (ct : Nat → va_E) (H : Heap) (locs : List Loc) (ls : Array Slot), tn ≤ 20 → 21 ≤ tn + n → JJ g ct → fP g 246 ct H → va_S (fB g) s.heap H locs → lv_has ls 20 [(0, .ref (sa g)), (1, .ref (fa g 0)), (2, .ref (fa g 239)), (3, .ref (fa g 240)), (4, .ref (fa g 241)), (5, .ref (fa g 242)), (6, .ref (fa g 243)), (7, .ref (fa g 244)), (8, .ref (fa g 245)), (9, .int (nI tn))] → W p l e room_1 s m #[.ref b] below meth c H locs 246 1622 Q (F0 m 120 ls []) := by
  intro n
  have hx := E.1.1
  have hb := E.1.2.1
  induction n with
  | zero => intro tn ct H locs ls h1 h2; exact absurd h2 (by omega)
  | succ n ih =>
    intro tn ct H locs ls h1 h2 hJ hP hS hl
    refine lv_iload hx hb dL_law_120 (lv_at hl 9 rfl) ?_
    refine lv_bipush (v := (nI 20)) hx hb dL_law_122 (by decide) ?_
    refine lv_icmp_ge (tgt := 1153) hx hb dL_law_124 (by decide) (fun c_124 => ?_) (fun c_124 => ?_)
    · rw [nI_leI (by omega) (by omega)] at c_124
      exact KE _ _ _ hS
    · rw [nI_leI (by omega) (by omega)] at c_124
      refine lw_act E hJ hP hS hl (by omega) (fun ct1 H1 locs1 ls1 hJ1 hP1 hS1 hl => by
            refine lv_iinc (v := (nI (tn + 1))) (lv' := [(9, .int (nI (tn + 1))), (0, .ref (sa g)), (1, .ref (fa g 0)), (2, .ref (fa g 239)), (3, .ref (fa g 240)), (4, .ref (fa g 241)), (5, .ref (fa g 242)), (6, .ref (fa g 243)), (7, .ref (fa g 244)), (8, .ref (fa g 245))]) hx hb dL_law_1147 hl (k := 9) rfl (nI_1 _) (by decide) rfl (fun ls hl => ?_)
            refine lv_goto (tgt := 120) hx hb dL_law_1150 (by decide) ?_
            exact ih (tn + 1) _ _ _ _ (by omega) (by omega) hJ1 hP1 hS1 (lv_sub hl [1, 2, 3, 4, 5, 6, 7, 8, 9, 0] rfl))
set_option maxRecDepth 100000 in
set_option maxHeartbeats 8000000 in
theorem lw_main (E : fE p m c cL_law 20 s #[.ref b] RL g) (hP : fP g 0 ct s.heap) (hl : lv_has ls 20 [(0, .ref (sa g))]) (KE : ∀ (H1 : Heap) (locs1 : List Loc) (ls1 : Array Slot), va_S (fB g) s.heap H1 locs1 → W p l e room_1 s m #[.ref b] below meth c H1 locs1 246 1622 Q (F0 m 1153 ls1 [])) : W p l e room_1 s m #[.ref b] below meth c s.heap [] 0 0 Q (F0 m 0 ls []) := by
  have hx := E.1.1
  have hb := E.1.2.1
  have hS : va_S (fB g) s.heap s.heap [] := va_S.rf
  refine fs_new E (N := 0) (fs := [.null, .null, .null, .null, .null, .null, .int 0]) hP hS fc7 (wm wl_1 (i := 0) rfl) (wm wl_1 (i := 1) rfl) (wm wl_1 (i := 2) rfl) (by decide) (Nat.le_of_ble_eq_true rfl) (Nat.le_of_ble_eq_true rfl) dL_law_0 (fun ct_1 H q_2 hP hS => ?_)
  have h_3 : ct_1 0 = .inr (7, [.null, .null, .null, .null, .null, .null, .int 0]) := by rw [q_2]; exact fu_eq _ _ _
  refine lv_dup hx hb dL_law_3 rfl ?_
  refine fs_v (va_runI (As := []) (rest := [.ref (fa g 0)]) E.1 (c_X7_init l g 1 ct_1 rfl h_3) (lk_RL_78 E.1.2.2.2.2 ⟨Nat.le_of_ble_eq_true rfl, Nat.le_of_ble_eq_true rfl⟩) (fpreS E hP hS) rfl rfl hl.1 rfl (lv_room (Nat.le_of_ble_eq_true rfl)) dL_law_4 ⟨(Nat.le_of_ble_eq_true rfl), (Nat.le_of_ble_eq_true rfl)⟩) hS (fun ct_4 H locs p_4 hP hS => ?_)
  refine lv_astore_n (lv' := [(1, .ref (fa g 0)), (0, .ref (sa g))]) hx hb dL_law_7 rfl hl (by decide) rfl (fun ls hl => ?_)
  refine lv_bipush (v := (nI 6)) hx hb dL_law_8 (by decide) ?_
  refine fs_newaI E (N := 239) hP hS (k := 6) (wm wl_1 (i := 3) rfl) (by decide) (by decide) (by decide) (Nat.le_of_ble_eq_true rfl) (Nat.le_of_ble_eq_true rfl) dL_law_10 (fun ct_5 H q_6 hP hS => ?_)
  have h_7 : ct_5 239 = .inl (fcI g, 6, .inl (fun _ => 0)) := by rw [q_6]; exact fu_eq _ _ _
  refine lv_astore_n (lv' := [(2, .ref (fa g 239)), (1, .ref (fa g 0)), (0, .ref (sa g))]) hx hb dL_law_12 rfl hl (by decide) rfl (fun ls hl => ?_)
  refine lv_bipush (v := (nI 6)) hx hb dL_law_13 (by decide) ?_
  refine fs_newaI E (N := 240) hP hS (k := 6) (wm wl_1 (i := 3) rfl) (by decide) (by decide) (by decide) (Nat.le_of_ble_eq_true rfl) (Nat.le_of_ble_eq_true rfl) dL_law_15 (fun ct_8 H q_9 hP hS => ?_)
  have h_10 : ct_8 239 = .inl (fcI g, 6, .inl (fun _ => 0)) := by rw [q_9]; exact (fu_ne (by omega)).trans h_7
  have h_11 : ct_8 240 = .inl (fcI g, 6, .inl (fun _ => 0)) := by rw [q_9]; exact fu_eq _ _ _
  refine lv_astore_n (lv' := [(3, .ref (fa g 240)), (2, .ref (fa g 239)), (1, .ref (fa g 0)), (0, .ref (sa g))]) hx hb dL_law_17 rfl hl (by decide) rfl (fun ls hl => ?_)
  refine lv_bipush (v := (nI 6)) hx hb dL_law_18 (by decide) ?_
  refine fs_newaI E (N := 241) hP hS (k := 6) (wm wl_1 (i := 3) rfl) (by decide) (by decide) (by decide) (Nat.le_of_ble_eq_true rfl) (Nat.le_of_ble_eq_true rfl) dL_law_20 (fun ct_12 H q_13 hP hS => ?_)
  have h_14 : ct_12 239 = .inl (fcI g, 6, .inl (fun _ => 0)) := by rw [q_13]; exact (fu_ne (by omega)).trans h_10
  have h_15 : ct_12 240 = .inl (fcI g, 6, .inl (fun _ => 0)) := by rw [q_13]; exact (fu_ne (by omega)).trans h_11
  have h_16 : ct_12 241 = .inl (fcI g, 6, .inl (fun _ => 0)) := by rw [q_13]; exact fu_eq _ _ _
  refine lv_astore (lv' := [(4, .ref (fa g 241)), (3, .ref (fa g 240)), (2, .ref (fa g 239)), (1, .ref (fa g 0)), (0, .ref (sa g))]) hx hb dL_law_22 hl (by decide) rfl (fun ls hl => ?_)
  refine lv_bipush (v := (nI 60)) hx hb dL_law_24 (by decide) ?_
  refine fs_newaI E (N := 242) hP hS (k := 60) (wm wl_1 (i := 3) rfl) (by decide) (by decide) (by decide) (Nat.le_of_ble_eq_true rfl) (Nat.le_of_ble_eq_true rfl) dL_law_26 (fun ct_17 H q_18 hP hS => ?_)
  have h_19 : ct_17 239 = .inl (fcI g, 6, .inl (fun _ => 0)) := by rw [q_18]; exact (fu_ne (by omega)).trans h_14
  have h_20 : ct_17 240 = .inl (fcI g, 6, .inl (fun _ => 0)) := by rw [q_18]; exact (fu_ne (by omega)).trans h_15
  have h_21 : ct_17 241 = .inl (fcI g, 6, .inl (fun _ => 0)) := by rw [q_18]; exact (fu_ne (by omega)).trans h_16
  have h_22 : ct_17 242 = .inl (fcI g, 60, .inl (fun _ => 0)) := by rw [q_18]; exact fu_eq _ _ _
  refine lv_astore (lv' := [(5, .ref (fa g 242)), (4, .ref (fa g 241)), (3, .ref (fa g 240)), (2, .ref (fa g 239)), (1, .ref (fa g 0)), (0, .ref (sa g))]) hx hb dL_law_28 hl (by decide) rfl (fun ls hl => ?_)
  refine lv_iconst (v := (nI 3)) hx hb dL_law_30 (by decide) ?_
  refine fs_newaI E (N := 243) hP hS (k := 3) (wm wl_1 (i := 3) rfl) (by decide) (by decide) (by decide) (Nat.le_of_ble_eq_true rfl) (Nat.le_of_ble_eq_true rfl) dL_law_31 (fun ct_23 H q_24 hP hS => ?_)
  have h_25 : ct_23 239 = .inl (fcI g, 6, .inl (fun _ => 0)) := by rw [q_24]; exact (fu_ne (by omega)).trans h_19
  have h_26 : ct_23 240 = .inl (fcI g, 6, .inl (fun _ => 0)) := by rw [q_24]; exact (fu_ne (by omega)).trans h_20
  have h_27 : ct_23 241 = .inl (fcI g, 6, .inl (fun _ => 0)) := by rw [q_24]; exact (fu_ne (by omega)).trans h_21
  have h_28 : ct_23 242 = .inl (fcI g, 60, .inl (fun _ => 0)) := by rw [q_24]; exact (fu_ne (by omega)).trans h_22
  have h_29 : ct_23 243 = .inl (fcI g, 3, .inl (fun _ => 0)) := by rw [q_24]; exact fu_eq _ _ _
  refine lv_astore (lv' := [(6, .ref (fa g 243)), (5, .ref (fa g 242)), (4, .ref (fa g 241)), (3, .ref (fa g 240)), (2, .ref (fa g 239)), (1, .ref (fa g 0)), (0, .ref (sa g))]) hx hb dL_law_33 hl (by decide) rfl (fun ls hl => ?_)
  refine lv_bipush (v := (nI 6)) hx hb dL_law_35 (by decide) ?_
  refine fs_newaI E (N := 244) hP hS (k := 6) (wm wl_1 (i := 3) rfl) (by decide) (by decide) (by decide) (Nat.le_of_ble_eq_true rfl) (Nat.le_of_ble_eq_true rfl) dL_law_37 (fun ct_30 H q_31 hP hS => ?_)
  have h_32 : ct_30 239 = .inl (fcI g, 6, .inl (fun _ => 0)) := by rw [q_31]; exact (fu_ne (by omega)).trans h_25
  have h_33 : ct_30 240 = .inl (fcI g, 6, .inl (fun _ => 0)) := by rw [q_31]; exact (fu_ne (by omega)).trans h_26
  have h_34 : ct_30 241 = .inl (fcI g, 6, .inl (fun _ => 0)) := by rw [q_31]; exact (fu_ne (by omega)).trans h_27
  have h_35 : ct_30 242 = .inl (fcI g, 60, .inl (fun _ => 0)) := by rw [q_31]; exact (fu_ne (by omega)).trans h_28
  have h_36 : ct_30 243 = .inl (fcI g, 3, .inl (fun _ => 0)) := by rw [q_31]; exact (fu_ne (by omega)).trans h_29
  have h_37 : ct_30 244 = .inl (fcI g, 6, .inl (fun _ => 0)) := by rw [q_31]; exact fu_eq _ _ _
  refine lv_astore (lv' := [(7, .ref (fa g 244)), (6, .ref (fa g 243)), (5, .ref (fa g 242)), (4, .ref (fa g 241)), (3, .ref (fa g 240)), (2, .ref (fa g 239)), (1, .ref (fa g 0)), (0, .ref (sa g))]) hx hb dL_law_39 hl (by decide) rfl (fun ls hl => ?_)
  refine lv_bipush (v := (nI 51)) hx hb dL_law_41 (by decide) ?_
  refine fs_newaI E (N := 245) hP hS (k := 51) (wm wl_1 (i := 3) rfl) (by decide) (by decide) (by decide) (Nat.le_of_ble_eq_true rfl) (Nat.le_of_ble_eq_true rfl) dL_law_43 (fun ct_38 H q_39 hP hS => ?_)
  have h_40 : ct_38 239 = .inl (fcI g, 6, .inl (fun _ => 0)) := by rw [q_39]; exact (fu_ne (by omega)).trans h_32
  have h_41 : ct_38 240 = .inl (fcI g, 6, .inl (fun _ => 0)) := by rw [q_39]; exact (fu_ne (by omega)).trans h_33
  have h_42 : ct_38 241 = .inl (fcI g, 6, .inl (fun _ => 0)) := by rw [q_39]; exact (fu_ne (by omega)).trans h_34
  have h_43 : ct_38 242 = .inl (fcI g, 60, .inl (fun _ => 0)) := by rw [q_39]; exact (fu_ne (by omega)).trans h_35
  have h_44 : ct_38 243 = .inl (fcI g, 3, .inl (fun _ => 0)) := by rw [q_39]; exact (fu_ne (by omega)).trans h_36
  have h_45 : ct_38 244 = .inl (fcI g, 6, .inl (fun _ => 0)) := by rw [q_39]; exact (fu_ne (by omega)).trans h_37
  have h_46 : ct_38 245 = .inl (fcI g, 51, .inl (fun _ => 0)) := by rw [q_39]; exact fu_eq _ _ _
  refine lv_astore (lv' := [(8, .ref (fa g 245)), (7, .ref (fa g 244)), (6, .ref (fa g 243)), (5, .ref (fa g 242)), (4, .ref (fa g 241)), (3, .ref (fa g 240)), (2, .ref (fa g 239)), (1, .ref (fa g 0)), (0, .ref (sa g))]) hx hb dL_law_45 hl (by decide) rfl (fun ls hl => ?_)
  refine lv_aload hx hb dL_law_47 (lv_at hl 2 rfl) ?_
  refine lv_iconst (v := (nI 0)) hx hb dL_law_49 (by decide) ?_
  refine lv_iconst (v := (nI 3)) hx hb dL_law_50 (by decide) ?_
  refine lv_aload_n hx hb dL_law_51 rfl (lv_at hl 8 rfl) ?_
  refine lv_iconst (v := (nI 0)) hx hb dL_law_52 (by decide) ?_
  refine fs_pi (va_runS (As := [.ref (sa g), .int (nI 0)]) (rest := [.int (nI 3), .int (nI 0), .ref (fa g 243)]) E.1 (c_L_cell l g 246 ct_38 0 (by omega)) (lk_RL_79 E.1.2.2.2.2 ⟨Nat.le_of_ble_eq_true rfl, Nat.le_of_ble_eq_true rfl⟩) (fpreS E hP hS) rfl rfl hl.1 rfl (lv_room (Nat.le_of_ble_eq_true rfl)) dL_law_53 ⟨(Nat.le_of_ble_eq_true rfl), (Nat.le_of_ble_eq_true rfl)⟩) hS (fun r_53 locs p_53 hS => ?_)
  refine lv_iconst (v := (nI 3)) hx hb dL_law_56 (by decide) ?_
  refine fs_pi (va_runS (As := [.int r_53, .int (nI 3)]) (rest := [.int (nI 3), .int (nI 0), .ref (fa g 243)]) E.1 (c_L_low l g 246 ct_38 r_53 3 (by omega) (by omega)) (lk_RL_68 E.1.2.2.2.2 ⟨Nat.le_of_ble_eq_true rfl, Nat.le_of_ble_eq_true rfl⟩) (fpreS E hP hS) rfl rfl hl.1 rfl (lv_room (Nat.le_of_ble_eq_true rfl)) dL_law_57 ⟨(Nat.le_of_ble_eq_true rfl), (Nat.le_of_ble_eq_true rfl)⟩) hS (fun r_57 locs p_57 hS => ?_)
  obtain ⟨v3, hv3, rfl⟩ := p_57
  refine lv_iadd hx hb dL_law_60 ?_
  refine fs_vi (y := nI (3 + v3)) (nI_add _ _) ?_
  obtain ⟨n5, hn3, hn5, e5⟩ : ∃ n5, 3 ≤ n5 ∧ n5 ≤ 5 ∧ 3 + v3 = n5 := ⟨_, by omega, by omega, rfl⟩
  refine fs_vi (y := nI n5) (congrArg nI e5) ?_
  refine fs_iast E hP hS (k := 243) h_44 (by omega) (vp_in_nI (by omega) (by omega)) dL_law_61 (fun ct_47 H locs q_48 hP hS => ?_)
  rw [nI_clamp (by omega)] at q_48
  have h_49 : ct_47 239 = .inl (fcI g, 6, .inl (fun _ => 0)) := by rw [q_48]; exact (fu_ne (by omega)).trans h_40
  have h_50 : ct_47 240 = .inl (fcI g, 6, .inl (fun _ => 0)) := by rw [q_48]; exact (fu_ne (by omega)).trans h_41
  have h_51 : ct_47 241 = .inl (fcI g, 6, .inl (fun _ => 0)) := by rw [q_48]; exact (fu_ne (by omega)).trans h_42
  have h_52 : ct_47 242 = .inl (fcI g, 60, .inl (fun _ => 0)) := by rw [q_48]; exact (fu_ne (by omega)).trans h_43
  have h_53 : ct_47 243 = .inl (fcI g, 3, .inl (upd (fun _ => 0) 0 (nI n5))) := by rw [q_48]; exact fu_eq _ _ _
  have h_54 : ct_47 244 = .inl (fcI g, 6, .inl (fun _ => 0)) := by rw [q_48]; exact (fu_ne (by omega)).trans h_45
  have h_55 : ct_47 245 = .inl (fcI g, 51, .inl (fun _ => 0)) := by rw [q_48]; exact (fu_ne (by omega)).trans h_46
  have hO1 := OGAt.keep (ct1 := ct_47) p_4 (fun j (h1 : j < 239) => ((show ct_47 j = ct_38 j by rw [q_48]; exact fu_ne (by omega))).trans (((show ct_38 j = ct_30 j by rw [q_39]; exact fu_ne (by omega))).trans (((show ct_30 j = ct_23 j by rw [q_31]; exact fu_ne (by omega))).trans (((show ct_23 j = ct_17 j by rw [q_24]; exact fu_ne (by omega))).trans (((show ct_17 j = ct_12 j by rw [q_18]; exact fu_ne (by omega))).trans (((show ct_12 j = ct_8 j by rw [q_13]; exact fu_ne (by omega))).trans (((show ct_8 j = ct_5 j by rw [q_9]; exact fu_ne (by omega))).trans ((show ct_5 j = ct_4 j by rw [q_6]; exact fu_ne (by omega))))))))))
  obtain ⟨f7, h7⟩ := OGAt.obj hO1
  refine lv_aload_n hx hb dL_law_62 rfl (lv_at hl 7 rfl) ?_
  refine lv_aload hx hb dL_law_63 (lv_at hl 2 rfl) ?_
  refine lv_iconst (v := (nI 0)) hx hb dL_law_65 (by decide) ?_
  refine fs_iald E hP (k := 243) h_53 (by omega) (vp_in_nI (by omega) (by omega)) dL_law_66 ?_
  refine fs_vi (y := (upd (fun _ => 0) 0 (nI n5)) 0) (congrArg (upd (fun _ => 0) 0 (nI n5)) (nI_clamp (by omega))) ?_
  refine fs_vi (y := (nI n5)) (upd_eq _ _ _) ?_
  refine fs_i (va_runV (As := [.int (nI n5)]) (rest := []) E.1 (c_X7_open l g 246 ct_47 (sOpen 4) 0 (fun _ _ => 0) false (fun _ => 0) false (fun _ => 0) (fun _ => 0) 0 (by omega) hO1 (nI n5)) (lk_RL_83 E.1.2.2.2.2 ⟨Nat.le_of_ble_eq_true rfl, Nat.le_of_ble_eq_true rfl⟩) (fpreV E hP hS fc7 h7 (by omega)) rfl rfl hl.1 rfl (lv_room (Nat.le_of_ble_eq_true rfl)) dL_law_67 ⟨(Nat.le_of_ble_eq_true rfl), (Nat.le_of_ble_eq_true rfl)⟩) hS (fun r_67 ct_56 H locs p_67 hP hS => ?_)
  rw [nI_cl (show n5 < 1000000 by omega)] at p_67
  have hcc : 3 ≤ (nI n5).toInt ∧ (nI n5).toInt ≤ 6 := by rw [nI_toInt (by omega)]; omega
  have hO2 := OGc_yes hcc p_67.2.1
  have h_57 : ct_56 239 = .inl (fcI g, 6, .inl (fun _ => 0)) := ((p_67.2.2 239 (by omega))).trans h_49
  have h_58 : ct_56 240 = .inl (fcI g, 6, .inl (fun _ => 0)) := ((p_67.2.2 240 (by omega))).trans h_50
  have h_59 : ct_56 241 = .inl (fcI g, 6, .inl (fun _ => 0)) := ((p_67.2.2 241 (by omega))).trans h_51
  have h_60 : ct_56 242 = .inl (fcI g, 60, .inl (fun _ => 0)) := ((p_67.2.2 242 (by omega))).trans h_52
  have h_61 : ct_56 243 = .inl (fcI g, 3, .inl (upd (fun _ => 0) 0 (nI n5))) := ((p_67.2.2 243 (by omega))).trans h_53
  have h_62 : ct_56 244 = .inl (fcI g, 6, .inl (fun _ => 0)) := ((p_67.2.2 244 (by omega))).trans h_54
  have h_63 : ct_56 245 = .inl (fcI g, 51, .inl (fun _ => 0)) := ((p_67.2.2 245 (by omega))).trans h_55
  refine fs_vi (y := (nI 4)) (p_67.1.trans (by rw [if_pos hcc, nB_open (by omega)])) ?_
  refine lv_iconst (v := (nI 4)) hx hb dL_law_70 (by decide) ?_
  refine lv_icmp_eq (tgt := 76) hx hb dL_law_71 (by decide) (fun c_71 => ?_) (fun c_71 => ?_)
  rotate_left
  · exact absurd c_71 (by decide)
  refine lv_iconst (v := (nI 0)) hx hb dL_law_76 (by decide) ?_
  refine lv_istore (lv' := [(9, .int (nI 0)), (8, .ref (fa g 245)), (7, .ref (fa g 244)), (6, .ref (fa g 243)), (5, .ref (fa g 242)), (4, .ref (fa g 241)), (3, .ref (fa g 240)), (2, .ref (fa g 239)), (1, .ref (fa g 0)), (0, .ref (sa g))]) hx hb dL_law_77 hl (by decide) rfl (fun ls hl => ?_)
  refine fs_ind (g := g) (N := 246) (St := Nat) (fun (pp : Nat) (ct_64 : Nat → va_E) (ls : Array Slot) => lv_has ls 20 [(0, .ref (sa g)), (1, .ref (fa g 0)), (2, .ref (fa g 239)), (3, .ref (fa g 240)), (4, .ref (fa g 241)), (5, .ref (fa g 242)), (6, .ref (fa g 243)), (7, .ref (fa g 244)), (8, .ref (fa g 245)), (9, .int (nI pp))] ∧ ∃ fl1 : Nat → Int32, ct_64 = fu ct_56 239 (.inl (fcI g, 6, .inl fl1)) ∧ pp ≤ n5 ∧ ∀ p, p < pp → fl1 p = nI ((p + 1) % n5)) (fun pp => n5 - pp) ?_ 0 _ _ ls _ ⟨lv_sub hl [9, 8, 7, 6, 5, 4, 3, 2, 1, 0] rfl, ⟨_, by rw [fu_same h_57], by omega, fun p hp => absurd hp (by omega)⟩⟩ hP hS
  clear hl hP hS
  intro st ct_64 H ls locs hI hP hS ih
  obtain ⟨pp, rfl⟩ : ∃ z, z = st := ⟨_, rfl⟩
  obtain ⟨hl, fl1, hct1, hI⟩ := hI
  have h_65 : ct_64 239 = .inl (fcI g, 6, .inl fl1) := by rw [hct1]; exact fu_eq _ _ _
  have h_66 : ct_64 240 = .inl (fcI g, 6, .inl (fun _ => 0)) := by rw [hct1]; exact (fu_ne (by omega)).trans h_58
  have h_67 : ct_64 241 = .inl (fcI g, 6, .inl (fun _ => 0)) := by rw [hct1]; exact (fu_ne (by omega)).trans h_59
  have h_68 : ct_64 242 = .inl (fcI g, 60, .inl (fun _ => 0)) := by rw [hct1]; exact (fu_ne (by omega)).trans h_60
  have h_69 : ct_64 243 = .inl (fcI g, 3, .inl (upd (fun _ => 0) 0 (nI n5))) := by rw [hct1]; exact (fu_ne (by omega)).trans h_61
  have h_70 : ct_64 244 = .inl (fcI g, 6, .inl (fun _ => 0)) := by rw [hct1]; exact (fu_ne (by omega)).trans h_62
  have h_71 : ct_64 245 = .inl (fcI g, 51, .inl (fun _ => 0)) := by rw [hct1]; exact (fu_ne (by omega)).trans h_63
  have hI1 := hI.1
  refine lv_iload hx hb dL_law_79 (lv_at hl 9 rfl) ?_
  refine lv_aload hx hb dL_law_81 (lv_at hl 6 rfl) ?_
  refine lv_iconst (v := (nI 0)) hx hb dL_law_83 (by decide) ?_
  refine fs_iald E hP (k := 243) h_69 (by omega) (vp_in_nI (by omega) (by omega)) dL_law_84 ?_
  refine fs_vi (y := (upd (fun _ => 0) 0 (nI n5)) 0) (congrArg (upd (fun _ => 0) 0 (nI n5)) (nI_clamp (by omega))) ?_
  refine fs_vi (y := (nI n5)) (upd_eq _ _ _) ?_
  refine lv_icmp_ge (tgt := 117) hx hb dL_law_85 (by decide) (fun c_85 => ?_) (fun c_85 => ?_)
  · rw [nI_leI (by omega) (by omega)] at c_85
    have hO3 := OGAt.keep (ct1 := ct_64) hO2 (fun j (h1 : j < 239) => (show ct_64 j = ct_56 j by rw [hct1]; exact fu_ne (by omega)))
    have hJ : JJ g ct_64 := ⟨_, _, _, _, _, _, _, _, _, _, _, _, _, _, _, _, hO3, by rw [nT_open]; omega, ⟨h_65, h_66, h_67, h_68, h_69⟩, RS_open hn3 (by omega) (fun p hp => hI.2 p (by omega)), h_70, h_71⟩
    refine lv_iconst (v := (nI 0)) hx hb dL_law_117 (by decide) ?_
    refine lv_istore (lv' := [(9, .int (nI 0)), (0, .ref (sa g)), (1, .ref (fa g 0)), (2, .ref (fa g 239)), (3, .ref (fa g 240)), (4, .ref (fa g 241)), (5, .ref (fa g 242)), (6, .ref (fa g 243)), (7, .ref (fa g 244)), (8, .ref (fa g 245))]) hx hb dL_law_118 hl (by decide) rfl (fun ls hl => ?_)
    exact lw_loop E KE 21 0 _ _ _ _ (by omega) (by omega) hJ hP hS (lv_sub hl [1, 2, 3, 4, 5, 6, 7, 8, 9, 0] rfl)
  · rw [nI_leI (by omega) (by omega)] at c_85
    refine lv_aload_n hx hb dL_law_88 rfl (lv_at hl 2 rfl) ?_
    refine lv_iload hx hb dL_law_89 (lv_at hl 9 rfl) ?_
    refine fs_cutS (g := g) (F0 m 110 ls [.int (nI ((pp + 1) % n5)) , .int (nI pp) , .ref (fa g 239)]) (fun locs hS => ?_) (fun K_110 => ?_)
    · skip
      refine fs_iast E hP hS (k := 239) h_65 (by omega) (vp_in_nI (by omega) (by omega)) dL_law_110 (fun ct_72 H locs q_73 hP hS => ?_)
      rw [nI_clamp (by omega)] at q_73
      have h_74 : ct_72 239 = .inl (fcI g, 6, .inl (upd fl1 pp (nI ((pp + 1) % n5)))) := by rw [q_73]; exact fu_eq _ _ _
      have h_75 : ct_72 240 = .inl (fcI g, 6, .inl (fun _ => 0)) := by rw [q_73]; exact (fu_ne (by omega)).trans h_66
      have h_76 : ct_72 241 = .inl (fcI g, 6, .inl (fun _ => 0)) := by rw [q_73]; exact (fu_ne (by omega)).trans h_67
      have h_77 : ct_72 242 = .inl (fcI g, 60, .inl (fun _ => 0)) := by rw [q_73]; exact (fu_ne (by omega)).trans h_68
      have h_78 : ct_72 243 = .inl (fcI g, 3, .inl (upd (fun _ => 0) 0 (nI n5))) := by rw [q_73]; exact (fu_ne (by omega)).trans h_69
      have h_79 : ct_72 244 = .inl (fcI g, 6, .inl (fun _ => 0)) := by rw [q_73]; exact (fu_ne (by omega)).trans h_70
      have h_80 : ct_72 245 = .inl (fcI g, 51, .inl (fun _ => 0)) := by rw [q_73]; exact (fu_ne (by omega)).trans h_71
      refine lv_iinc (v := (nI (pp + 1))) (lv' := [(9, .int (nI (pp + 1))), (0, .ref (sa g)), (1, .ref (fa g 0)), (2, .ref (fa g 239)), (3, .ref (fa g 240)), (4, .ref (fa g 241)), (5, .ref (fa g 242)), (6, .ref (fa g 243)), (7, .ref (fa g 244)), (8, .ref (fa g 245))]) hx hb dL_law_111 hl (k := 9) rfl (nI_1 _) (by decide) rfl (fun ls hl => ?_)
      refine lv_goto (tgt := 79) hx hb dL_law_114 (by decide) ?_
      exact ih (pp + 1) _ _ ls _ (by omega) ⟨lv_sub hl [1, 2, 3, 4, 5, 6, 7, 8, 9, 0] rfl, ⟨_, by rw [q_73, hct1, fu_fu], by omega, fun p hp => (Nat.lt_or_ge p pp).elim (fun q => (upd_ne (by omega)).trans (hI.2 p q)) (fun q => by rw [show p = pp by omega]; exact upd_eq _ _ _)⟩⟩ hP hS
    refine lv_iload hx hb dL_law_91 (lv_at hl 9 rfl) ?_
    refine lv_iconst (v := (nI 1)) hx hb dL_law_93 (by decide) ?_
    refine lv_iadd hx hb dL_law_94 ?_
    refine fs_vi (y := nI (pp + 1)) (nI_add _ _) ?_
    refine lv_aload hx hb dL_law_95 (lv_at hl 6 rfl) ?_
    refine lv_iconst (v := (nI 0)) hx hb dL_law_97 (by decide) ?_
    refine fs_iald E hP (k := 243) h_69 (by omega) (vp_in_nI (by omega) (by omega)) dL_law_98 ?_
    refine fs_vi (y := (upd (fun _ => 0) 0 (nI n5)) 0) (congrArg (upd (fun _ => 0) 0 (nI n5)) (nI_clamp (by omega))) ?_
    refine fs_vi (y := (nI n5)) (upd_eq _ _ _) ?_
    refine lv_icmp_ne (tgt := 106) hx hb dL_law_99 (by decide) (fun c_99 => ?_) (fun c_99 => ?_)
    · rw [nI_eq (by omega) (by omega)] at c_99
      refine lv_iload hx hb dL_law_106 (lv_at hl 9 rfl) ?_
      refine lv_iconst (v := (nI 1)) hx hb dL_law_108 (by decide) ?_
      refine lv_iadd hx hb dL_law_109 ?_
      refine fs_vi (y := nI (pp + 1)) (nI_add _ _) ?_
      refine fs_vi (y := (nI ((pp + 1) % n5))) (congrArg nI (by rw [modS (by omega), if_pos (by omega)])) ?_
      exact K_110 _ hS
    · rw [nI_eq (by omega) (by omega)] at c_99
      refine lv_iconst (v := (nI 0)) hx hb dL_law_102 (by decide) ?_
      refine lv_goto (tgt := 110) hx hb dL_law_103 (by decide) ?_
      refine fs_vi (y := (nI ((pp + 1) % n5))) (congrArg nI (by rw [modS (by omega), if_neg (by omega)])) ?_
      exact K_110 _ hS
end LWL
