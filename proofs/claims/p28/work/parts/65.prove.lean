section LWC
variable {p : Program} {l : Launch} {e : Env} {s : State} {m : MethodId} {below : List Frame} {meth : Method} {c : Code} {H : Heap} {locs : List Loc} {Q : State → Prop} {b : Nat} {ls : Array Slot} {g : fG} {ct : Nat → va_E} {x y : Int32} {tn kc rI : Nat}
variable {σ : Nat → Int32} {k : Nat} {hs : Nat → Nat → Int32} {u1 : Bool} {s1 : Nat → Int32} {u2 : Bool} {s2 : Nat → Int32} {t : Nat → Nat} {len : Nat} {fl fsc fgu fr fq fw fc : Nat → Int32}
set_option maxRecDepth 100000 in
set_option maxHeartbeats 8000000 in
theorem lw_prove (E : fE p m c cL_law 20 s #[.ref b] RL g) (hO : OGAt g ct σ k hs u1 s1 u2 s2 t len) (h12 : nT σ ≤ 12) (hRW : RWS g ct fl fsc fgu fr fq) (hRS : RS σ fl fsc fgu fr fq) (hcw : ct 244 = .inl (fcI g, 6, .inl fw)) (hcc : ct 245 = .inl (fcI g, 51, .inl fc)) (hP : fP g 246 ct H) (hS : va_S (fB g) s.heap H locs) (hrI : (nT σ = 0 → rI = 0) ∧ (nT σ ≠ 0 → rI < nT σ))  (hl : lv_has ls 20 [(0, .ref (sa g)), (1, .ref (fa g 0)), (2, .ref (fa g 239)), (3, .ref (fa g 240)), (4, .ref (fa g 241)), (5, .ref (fa g 242)), (6, .ref (fa g 243)), (7, .ref (fa g 244)), (8, .ref (fa g 245)), (9, .int (nI tn)), (10, .int x), (11, .int y), (12, .int (nI kc)), (13, .int (nI rI))]) (K : ∀ (ct1 : Nat → va_E) (H1 : Heap) (locs1 : List Loc) (ls1 : Array Slot), JJ g ct1 → fP g 246 ct1 H1 → va_S (fB g) s.heap H1 locs1 → lv_has ls1 20 [(0, .ref (sa g)), (1, .ref (fa g 0)), (2, .ref (fa g 239)), (3, .ref (fa g 240)), (4, .ref (fa g 241)), (5, .ref (fa g 242)), (6, .ref (fa g 243)), (7, .ref (fa g 244)), (8, .ref (fa g 245)), (9, .int (nI tn)), (11, .int y)] → W p l e room_1 s m #[.ref b] below meth c H1 locs1 246 1622 Q (F0 m 1122 ls1 [])) : W p l e room_1 s m #[.ref b] below meth c H locs 246 1622 Q (F0 m 404 ls []) := by
  have hx := E.1.1
  have hb := E.1.2.1
  have hN : 246 ≤ 246 := Nat.le_refl _
  have hG := hO.good
  have hn3 := hG.n3
  have hn6 := hG.n6
  have hM := hG.M
  obtain ⟨f7, h7⟩ := hO.obj
  obtain ⟨h39, h40, h41, h42, h43⟩ := hRW
  obtain ⟨⟨hq0, hq1, hQ3⟩, hL, hSc, hGu, hR⟩ := id hRS
  have hQ : fq 0 = nI (nB σ) ∧ fq 1 = nI (nT σ) := ⟨hq0, hq1⟩
  refine fs_cutN (g := g) (fun so0 => so0 < 2) (fun so0 => F0 m 445 ls [.int (nI so0)]) (fun so0 locs hso0 hS => ?_) (fun K_445 => ?_)
  · have hso09 := hso0
    obtain ⟨so, hso⟩ := so_ex hso0
    refine fs_vi (y := bI (so = true)) hso ?_
    refine lv_istore (lv' := [(14, .int (bI (so = true))), (0, .ref (sa g)), (1, .ref (fa g 0)), (2, .ref (fa g 239)), (3, .ref (fa g 240)), (4, .ref (fa g 241)), (5, .ref (fa g 242)), (6, .ref (fa g 243)), (7, .ref (fa g 244)), (8, .ref (fa g 245)), (9, .int (nI tn)), (10, .int x), (11, .int y), (12, .int (nI kc)), (13, .int (nI rI))]) hx hb dL_law_445 hl (by decide) rfl (fun ls hl => ?_)
    refine fs_cutS (g := g) (F0 m 471 ls [.int (bI (0 < nT σ ∧ rk σ rI 4 = 0))]) (fun locs hS => ?_) (fun K_471 => ?_)
    · skip
      refine lv_istore (lv' := [(15, .int (bI (0 < nT σ ∧ rk σ rI 4 = 0))), (14, .int (bI (so = true))), (0, .ref (sa g)), (1, .ref (fa g 0)), (2, .ref (fa g 239)), (3, .ref (fa g 240)), (4, .ref (fa g 241)), (5, .ref (fa g 242)), (6, .ref (fa g 243)), (7, .ref (fa g 244)), (8, .ref (fa g 245)), (9, .int (nI tn)), (10, .int x), (11, .int y), (12, .int (nI kc)), (13, .int (nI rI))]) hx hb dL_law_471 hl (by decide) rfl (fun ls hl => ?_)
      refine lv_iload hx hb dL_law_473 (lv_at hl 0 rfl) ?_
      refine lv_if_eq (tgt := 497) hx hb dL_law_475 (by decide) (fun c_475 => ?_) (fun c_475 => ?_)
      · have c_475 := (fb_0 (rfl : (bI (0 < nT σ ∧ rk σ rI 4 = 0)) = (bI (0 < nT σ ∧ rk σ rI 4 = 0)))).mp c_475
        have hcan := c_475
        refine lv_aload hx hb dL_law_497 (lv_at hl 8 rfl) ?_
        refine lv_aload hx hb dL_law_499 (lv_at hl 7 rfl) ?_
        refine lv_aload hx hb dL_law_501 (lv_at hl 9 rfl) ?_
        refine lv_aload hx hb dL_law_503 (lv_at hl 10 rfl) ?_
        refine fs_v (va_runS (As := [.ref (fa g 243), .ref (fa g 242), .ref (fa g 244), .ref (fa g 245)]) (rest := []) E.1 (c_L_all l g 246 ct σ (by omega) hG h12 fr h42 hR fq h43 hQ fw hcw fc hcc) (lk_RL_32 E.1.2.2.2.2 ⟨Nat.le_of_ble_eq_true rfl, Nat.le_of_ble_eq_true rfl⟩) (fpreS E hP hS) rfl rfl hl.1 rfl (lv_room (Nat.le_of_ble_eq_true rfl)) dL_law_505 ⟨(Nat.le_of_ble_eq_true rfl), (Nat.le_of_ble_eq_true rfl)⟩) hS (fun ct_1 H locs p_505 hP hS => ?_)
        obtain ⟨⟨fw2, hw2⟩, ⟨fC, h45, hCO⟩, hs2⟩ := p_505
        have h_2 : ct_1 239 = .inl (fcI g, 6, .inl fl) := ((hs2 239 (by omega))).trans h39
        have h_3 : ct_1 240 = .inl (fcI g, 6, .inl fsc) := ((hs2 240 (by omega))).trans h40
        have h_4 : ct_1 241 = .inl (fcI g, 6, .inl fgu) := ((hs2 241 (by omega))).trans h41
        have h_5 : ct_1 242 = .inl (fcI g, 60, .inl fr) := ((hs2 242 (by omega))).trans h42
        have h_6 : ct_1 243 = .inl (fcI g, 3, .inl fq) := ((hs2 243 (by omega))).trans h43
        have hO_7 : OGAt g ct_1 σ k hs u1 s1 u2 s2 t len := OGAt.keep hO (fun j h1 => hs2 j (by omega))
        obtain ⟨f7_8, h7_9⟩ := hO_7.obj
        refine lv_aload_n hx hb dL_law_508 rfl (lv_at hl 3 rfl) ?_
        refine lv_iload hx hb dL_law_509 (lv_at hl 15 rfl) ?_
        refine lv_iload hx hb dL_law_511 (lv_at hl 1 rfl) ?_
        refine fs_i (va_runV (As := [.int (nI rI), .int (bI (so = true))]) (rest := []) E.1 (c_X7_prove l g 246 ct_1 σ k hs u1 s1 u2 s2 t len (by omega) hO_7 (nI rI) so) (lk_RL_90 E.1.2.2.2.2 ⟨Nat.le_of_ble_eq_true rfl, Nat.le_of_ble_eq_true rfl⟩) (fpreV E hP hS fc7 h7_9 (by omega)) rfl rfl hl.1 rfl (lv_room (Nat.le_of_ble_eq_true rfl)) dL_law_513 ⟨(Nat.le_of_ble_eq_true rfl), (Nat.le_of_ble_eq_true rfl)⟩) hS (fun r_513 ct_10 H locs p_513 hP hS => ?_)
        rw [nI_cl (show rI < 1000000 by omega)] at p_513
        have h_11 : ct_10 239 = .inl (fcI g, 6, .inl fl) := ((p_513.2.2 239 (by omega))).trans h_2
        have h_12 : ct_10 240 = .inl (fcI g, 6, .inl fsc) := ((p_513.2.2 240 (by omega))).trans h_3
        have h_13 : ct_10 241 = .inl (fcI g, 6, .inl fgu) := ((p_513.2.2 241 (by omega))).trans h_4
        have h_14 : ct_10 242 = .inl (fcI g, 60, .inl fr) := ((p_513.2.2 242 (by omega))).trans h_5
        have h_15 : ct_10 243 = .inl (fcI g, 3, .inl fq) := ((p_513.2.2 243 (by omega))).trans h_6
        have h_16 : ct_10 244 = .inl (fcI g, 6, .inl fw2) := ((p_513.2.2 244 (by omega))).trans hw2
        have h_17 : ct_10 245 = .inl (fcI g, 51, .inl fC) := ((p_513.2.2 245 (by omega))).trans h45
        have hcc : ¬ (hrx σ (nI rI) ∧ rk σ rI 4 = 0) := fun y => hcan ⟨by have h1 := y.1.1; have h2 := y.1.2; omega, y.2⟩
        rcases Decidable.em (nT σ = 0) with hz | hz
        · have hO_18 := OGc_no hcc p_513.2.1
          obtain ⟨f7_19, h7_20⟩ := OGAt.obj hO_18
          refine fs_vi (y := (-1)) (p_513.1.trans (if_neg (hb_out hz))) ?_
          refine lv_aload hx hb dL_law_516 (lv_at hl 8 rfl) ?_
          refine lv_iconst (v := (nI 1)) hx hb dL_law_518 (by decide) ?_
          refine fs_iald E hP (k := 243) h_15 (by omega) (vp_in_nI (by omega) (by omega)) dL_law_519 ?_
          refine fs_vi (y := fq 1) (congrArg fq (nI_clamp (by omega))) ?_
          refine fs_vi (y := (nI (nT σ))) hQ.2 ?_
          refine lv_if_ne (tgt := 527) hx hb dL_law_520 (by decide) (fun c_520 => ?_) (fun c_520 => ?_)
          · rw [fz_eqN (by omega)] at c_520
            exact absurd hz c_520
          · rw [fz_eqN (by omega)] at c_520
            refine lv_iconst (v := (-1)) hx hb dL_law_523 (by decide) ?_
            refine lv_goto (tgt := 541) hx hb dL_law_524 (by decide) ?_
            refine lv_icmp_eq (tgt := 546) hx hb dL_law_541 (by decide) (fun c_541 => ?_) (fun c_541 => ?_)
            rotate_left
            · exact absurd c_541 (by decide)
            refine lv_goto (tgt := 1122) hx hb dL_law_546 (by decide) ?_
            exact K _ _ _ _ ⟨_, _, _, _, _, _, _, _, _, _, _, _, _, _, _, _, hO_18, h12, ⟨h_11, h_12, h_13, h_14, h_15⟩, hRS, h_16, h_17⟩ hP hS (lv_sub hl [2, 3, 4, 5, 6, 7, 8, 9, 10, 11, 13] rfl)
        · have hrl9 : rI < nT σ := hrI.2 hz
          have hri := hr_in hrl9 hG.k
          have hO_21 := OGc_no hcc p_513.2.1
          obtain ⟨f7_22, h7_23⟩ := OGAt.obj hO_21
          refine fs_vi (y := (-5)) (p_513.1.trans (by rw [if_pos hri, if_neg (fun y => hcc ⟨hri, y⟩)])) ?_
          refine lv_aload hx hb dL_law_516 (lv_at hl 8 rfl) ?_
          refine lv_iconst (v := (nI 1)) hx hb dL_law_518 (by decide) ?_
          refine fs_iald E hP (k := 243) h_15 (by omega) (vp_in_nI (by omega) (by omega)) dL_law_519 ?_
          refine fs_vi (y := fq 1) (congrArg fq (nI_clamp (by omega))) ?_
          refine fs_vi (y := (nI (nT σ))) hQ.2 ?_
          refine lv_if_ne (tgt := 527) hx hb dL_law_520 (by decide) (fun c_520 => ?_) (fun c_520 => ?_)
          · rw [fz_eqN (by omega)] at c_520
            refine lv_iload hx hb dL_law_527 (lv_at hl 0 rfl) ?_
            refine lv_if_eq (tgt := 539) hx hb dL_law_529 (by decide) (fun c_529 => ?_) (fun c_529 => ?_)
            · have c_529 := (fb_0 (rfl : (bI (0 < nT σ ∧ rk σ rI 4 = 0)) = (bI (0 < nT σ ∧ rk σ rI 4 = 0)))).mp c_529
              refine lv_bipush (v := (-5)) hx hb dL_law_539 (by decide) ?_
              refine lv_icmp_eq (tgt := 546) hx hb dL_law_541 (by decide) (fun c_541 => ?_) (fun c_541 => ?_)
              rotate_left
              · exact absurd c_541 (by decide)
              refine lv_goto (tgt := 1122) hx hb dL_law_546 (by decide) ?_
              exact K _ _ _ _ ⟨_, _, _, _, _, _, _, _, _, _, _, _, _, _, _, _, hO_21, h12, ⟨h_11, h_12, h_13, h_14, h_15⟩, hRS, h_16, h_17⟩ hP hS (lv_sub hl [2, 3, 4, 5, 6, 7, 8, 9, 10, 11, 13] rfl)
            · have c_529 := (fb_1 (rfl : (bI (0 < nT σ ∧ rk σ rI 4 = 0)) = (bI (0 < nT σ ∧ rk σ rI 4 = 0)))).mp c_529
              exact absurd c_529 hcan
          · rw [fz_eqN (by omega)] at c_520
            exact absurd c_520 hz
      · have c_475 := (fb_1 (rfl : (bI (0 < nT σ ∧ rk σ rI 4 = 0)) = (bI (0 < nT σ ∧ rk σ rI 4 = 0)))).mp c_475
        have hcan := c_475
        have hrl : rI < nT σ := hrI.2 (by have := hcan.1; omega)
        refine lv_aload hx hb dL_law_478 (lv_at hl 7 rfl) ?_
        refine lv_iconst (v := (nI 5)) hx hb dL_law_480 (by decide) ?_
        refine lv_iload hx hb dL_law_481 (lv_at hl 15 rfl) ?_
        refine lv_imul hx hb dL_law_483 ?_
        refine fs_vi (y := nI (5 * rI)) (pk_mul _ _) ?_
        refine lv_iconst (v := (nI 4)) hx hb dL_law_484 (by decide) ?_
        refine lv_iadd hx hb dL_law_485 ?_
        refine fs_vi (y := nI (5 * rI + 4)) (nI_add _ _) ?_
        refine fs_cutS (g := g) (F0 m 496 ls [.int (nI (howv so)) , .int (nI (5 * rI + 4)) , .ref (fa g 242)]) (fun locs hS => ?_) (fun K_496 => ?_)
        · skip
          refine fs_iast E hP hS (k := 242) h42 (by omega) (vp_in_nI (by omega) (by omega)) dL_law_496 (fun ct_24 H locs q_25 hP hS => ?_)
          rw [nI_clamp (by omega)] at q_25
          have h_26 : ct_24 0 = .inr (7, f7) := by rw [q_25]; exact (fu_ne (by omega)).trans h7
          have h_27 : ct_24 239 = .inl (fcI g, 6, .inl fl) := by rw [q_25]; exact (fu_ne (by omega)).trans h39
          have h_28 : ct_24 240 = .inl (fcI g, 6, .inl fsc) := by rw [q_25]; exact (fu_ne (by omega)).trans h40
          have h_29 : ct_24 241 = .inl (fcI g, 6, .inl fgu) := by rw [q_25]; exact (fu_ne (by omega)).trans h41
          have h_30 : ct_24 242 = .inl (fcI g, 60, .inl (upd fr (5 * rI + 4) (nI (howv so)))) := by rw [q_25]; exact fu_eq _ _ _
          have h_31 : ct_24 243 = .inl (fcI g, 3, .inl fq) := by rw [q_25]; exact (fu_ne (by omega)).trans h43
          have h_32 : ct_24 244 = .inl (fcI g, 6, .inl fw) := by rw [q_25]; exact (fu_ne (by omega)).trans hcw
          have h_33 : ct_24 245 = .inl (fcI g, 51, .inl fc) := by rw [q_25]; exact (fu_ne (by omega)).trans hcc
          have hO_34 : OGAt g ct_24 σ k hs u1 s1 u2 s2 t len := OGAt.keep hO (fun j (h1 : j < 239) => (show ct_24 j = ct j by rw [q_25]; exact fu_ne (by omega)))
          obtain ⟨f7_35, h7_36⟩ := hO_34.obj
          have hG2 : Good (upd σ (25 + 5 * rI) (nI (howv so))) := Good_how hG ((howv_le so))
          have h12b : nT (upd σ (25 + 5 * rI) (nI (howv so))) ≤ 12 := by rw [nT_upd (by omega)]; exact h12
          have hRS2 := RS_how (r0 := rI) (z := howv so) hn6 (by have := (howv_le so); omega) hRS
          have hQ2 := (⟨hRS2.1.1, hRS2.1.2.1⟩ : _ ∧ _)
          refine lv_aload hx hb dL_law_497 (lv_at hl 8 rfl) ?_
          refine lv_aload hx hb dL_law_499 (lv_at hl 7 rfl) ?_
          refine lv_aload hx hb dL_law_501 (lv_at hl 9 rfl) ?_
          refine lv_aload hx hb dL_law_503 (lv_at hl 10 rfl) ?_
          refine fs_v (va_runS (As := [.ref (fa g 243), .ref (fa g 242), .ref (fa g 244), .ref (fa g 245)]) (rest := []) E.1 (c_L_all l g 246 ct_24 (upd σ (25 + 5 * rI) (nI (howv so))) (by omega) hG2 h12b (upd fr (5 * rI + 4) (nI (howv so))) h_30 hRS2.2.2.2.2 fq h_31 hQ2 fw h_32 fc h_33) (lk_RL_32 E.1.2.2.2.2 ⟨Nat.le_of_ble_eq_true rfl, Nat.le_of_ble_eq_true rfl⟩) (fpreS E hP hS) rfl rfl hl.1 rfl (lv_room (Nat.le_of_ble_eq_true rfl)) dL_law_505 ⟨(Nat.le_of_ble_eq_true rfl), (Nat.le_of_ble_eq_true rfl)⟩) hS (fun ct_37 H locs p_505 hP hS => ?_)
          obtain ⟨⟨fw2, hw2⟩, ⟨fC, h45, hCO⟩, hs2⟩ := p_505
          have h_38 : ct_37 239 = .inl (fcI g, 6, .inl fl) := ((hs2 239 (by omega))).trans h_27
          have h_39 : ct_37 240 = .inl (fcI g, 6, .inl fsc) := ((hs2 240 (by omega))).trans h_28
          have h_40 : ct_37 241 = .inl (fcI g, 6, .inl fgu) := ((hs2 241 (by omega))).trans h_29
          have h_41 : ct_37 242 = .inl (fcI g, 60, .inl (upd fr (5 * rI + 4) (nI (howv so)))) := ((hs2 242 (by omega))).trans h_30
          have h_42 : ct_37 243 = .inl (fcI g, 3, .inl fq) := ((hs2 243 (by omega))).trans h_31
          have hO_43 : OGAt g ct_37 σ k hs u1 s1 u2 s2 t len := OGAt.keep hO_34 (fun j h1 => hs2 j (by omega))
          obtain ⟨f7_44, h7_45⟩ := hO_43.obj
          refine lv_aload_n hx hb dL_law_508 rfl (lv_at hl 3 rfl) ?_
          refine lv_iload hx hb dL_law_509 (lv_at hl 15 rfl) ?_
          refine lv_iload hx hb dL_law_511 (lv_at hl 1 rfl) ?_
          refine fs_i (va_runV (As := [.int (nI rI), .int (bI (so = true))]) (rest := []) E.1 (c_X7_prove l g 246 ct_37 σ k hs u1 s1 u2 s2 t len (by omega) hO_43 (nI rI) so) (lk_RL_90 E.1.2.2.2.2 ⟨Nat.le_of_ble_eq_true rfl, Nat.le_of_ble_eq_true rfl⟩) (fpreV E hP hS fc7 h7_45 (by omega)) rfl rfl hl.1 rfl (lv_room (Nat.le_of_ble_eq_true rfl)) dL_law_513 ⟨(Nat.le_of_ble_eq_true rfl), (Nat.le_of_ble_eq_true rfl)⟩) hS (fun r_513 ct_46 H locs p_513 hP hS => ?_)
          rw [nI_cl (show rI < 1000000 by omega)] at p_513
          have h_47 : ct_46 239 = .inl (fcI g, 6, .inl fl) := ((p_513.2.2 239 (by omega))).trans h_38
          have h_48 : ct_46 240 = .inl (fcI g, 6, .inl fsc) := ((p_513.2.2 240 (by omega))).trans h_39
          have h_49 : ct_46 241 = .inl (fcI g, 6, .inl fgu) := ((p_513.2.2 241 (by omega))).trans h_40
          have h_50 : ct_46 242 = .inl (fcI g, 60, .inl (upd fr (5 * rI + 4) (nI (howv so)))) := ((p_513.2.2 242 (by omega))).trans h_41
          have h_51 : ct_46 243 = .inl (fcI g, 3, .inl fq) := ((p_513.2.2 243 (by omega))).trans h_42
          have h_52 : ct_46 244 = .inl (fcI g, 6, .inl fw2) := ((p_513.2.2 244 (by omega))).trans hw2
          have h_53 : ct_46 245 = .inl (fcI g, 51, .inl fC) := ((p_513.2.2 245 (by omega))).trans h45
          have hcc : hrx σ (nI rI) ∧ rk σ rI 4 = 0 := ⟨hr_in hrl hG.k, hcan.2⟩
          have hO_54 := OGc_yes hcc p_513.2.1
          obtain ⟨f7_55, h7_56⟩ := OGAt.obj hO_54
          refine fs_vi (y := (nI (Wn (upd σ (25 + 5 * rI) (nI (howv so)))))) (p_513.1.trans (by rw [if_pos hcc.1, if_pos hcc.2])) ?_
          refine lv_aload hx hb dL_law_516 (lv_at hl 8 rfl) ?_
          refine lv_iconst (v := (nI 1)) hx hb dL_law_518 (by decide) ?_
          refine fs_iald E hP (k := 243) h_51 (by omega) (vp_in_nI (by omega) (by omega)) dL_law_519 ?_
          refine fs_vi (y := fq 1) (congrArg fq (nI_clamp (by omega))) ?_
          refine fs_vi (y := (nI (nT σ))) hQ.2 ?_
          refine lv_if_ne (tgt := 527) hx hb dL_law_520 (by decide) (fun c_520 => ?_) (fun c_520 => ?_)
          · rw [fz_eqN (by omega)] at c_520
            refine lv_iload hx hb dL_law_527 (lv_at hl 0 rfl) ?_
            refine lv_if_eq (tgt := 539) hx hb dL_law_529 (by decide) (fun c_529 => ?_) (fun c_529 => ?_)
            · have c_529 := (fb_0 (rfl : (bI (0 < nT σ ∧ rk σ rI 4 = 0)) = (bI (0 < nT σ ∧ rk σ rI 4 = 0)))).mp c_529
              exact absurd hcan c_529
            · have c_529 := (fb_1 (rfl : (bI (0 < nT σ ∧ rk σ rI 4 = 0)) = (bI (0 < nT σ ∧ rk σ rI 4 = 0)))).mp c_529
              refine lv_aload hx hb dL_law_532 (lv_at hl 10 rfl) ?_
              refine lv_iconst (v := (nI 0)) hx hb dL_law_534 (by decide) ?_
              refine fs_iald E hP (k := 245) h_53 (by omega) (vp_in_nI (by omega) (by omega)) dL_law_535 ?_
              refine fs_vi (y := fC 0) (congrArg fC (nI_clamp (by omega))) ?_
              refine fs_vi (y := (nI (Wn (upd σ (25 + 5 * rI) (nI (howv so)))))) hCO.1 ?_
              refine lv_goto (tgt := 541) hx hb dL_law_536 (by decide) ?_
              refine lv_icmp_eq (tgt := 546) hx hb dL_law_541 (by decide) (fun c_541 => ?_) (fun c_541 => ?_)
              rotate_left
              · exact absurd rfl c_541
              refine lv_goto (tgt := 1122) hx hb dL_law_546 (by decide) ?_
              exact K _ _ _ _ ⟨_, _, _, _, _, _, _, _, _, _, _, _, _, _, _, _, hO_54, h12b, ⟨h_47, h_48, h_49, h_50, h_51⟩, hRS2, h_52, h_53⟩ hP hS (lv_sub hl [2, 3, 4, 5, 6, 7, 8, 9, 10, 11, 13] rfl)
          · rw [fz_eqN (by omega)] at c_520
            exact absurd hcan.1 (by omega)
        refine lv_iload hx hb dL_law_486 (lv_at hl 1 rfl) ?_
        refine lv_if_eq (tgt := 495) hx hb dL_law_488 (by decide) (fun c_488 => ?_) (fun c_488 => ?_)
        · have c_488 := (fb_0 (rfl : bI (so = true) = bI (so = true))).mp c_488
          refine lv_iconst (v := (nI 2)) hx hb dL_law_495 (by decide) ?_
          refine fs_vi (y := (nI (howv so))) (by rw [Bool.eq_false_iff.mpr c_488]; rfl) ?_
          exact K_496 _ hS
        · have c_488 := (fb_1 (rfl : bI (so = true) = bI (so = true))).mp c_488
          refine lv_iconst (v := (nI 1)) hx hb dL_law_491 (by decide) ?_
          refine lv_goto (tgt := 496) hx hb dL_law_492 (by decide) ?_
          refine fs_vi (y := (nI (howv so))) (by rw [c_488]; rfl) ?_
          exact K_496 _ hS
    refine lv_aload hx hb dL_law_447 (lv_at hl 7 rfl) ?_
    refine lv_iconst (v := (nI 1)) hx hb dL_law_449 (by decide) ?_
    refine fs_iald E hP (k := 243) h43 (by omega) (vp_in_nI (by omega) (by omega)) dL_law_450 ?_
    refine fs_vi (y := fq 1) (congrArg fq (nI_clamp (by omega))) ?_
    refine fs_vi (y := (nI (nT σ))) hQ.2 ?_
    refine lv_if_le (tgt := 470) hx hb dL_law_451 (by decide) (fun c_451 => ?_) (fun c_451 => ?_)
    · rw [fz_leN (by omega)] at c_451
      refine lv_iconst (v := (nI 0)) hx hb dL_law_470 (by decide) ?_
      refine fs_vi (y := (bI (0 < nT σ ∧ rk σ rI 4 = 0))) (bI_f (fun z => by have := z.1; omega)) ?_
      exact K_471 _ hS
    · rw [fz_leN (by omega)] at c_451
      have hrl : rI < nT σ := hrI.2 (by omega)
      have hst := (hG.how4 hrl).2
      refine lv_aload hx hb dL_law_454 (lv_at hl 6 rfl) ?_
      refine lv_iconst (v := (nI 5)) hx hb dL_law_456 (by decide) ?_
      refine lv_iload hx hb dL_law_457 (lv_at hl 14 rfl) ?_
      refine lv_imul hx hb dL_law_459 ?_
      refine fs_vi (y := nI (5 * rI)) (pk_mul _ _) ?_
      refine lv_iconst (v := (nI 4)) hx hb dL_law_460 (by decide) ?_
      refine lv_iadd hx hb dL_law_461 ?_
      refine fs_vi (y := nI (5 * rI + 4)) (nI_add _ _) ?_
      refine fs_iald E hP (k := 242) h42 (by omega) (vp_in_nI (by omega) (by omega)) dL_law_462 ?_
      refine fs_vi (y := fr (5 * rI + 4)) (congrArg fr (nI_clamp (by omega))) ?_
      refine fs_vi (y := (nI (rk σ rI 4))) (hR rI 4 (by omega) (by omega)) ?_
      refine lv_if_ne (tgt := 470) hx hb dL_law_463 (by decide) (fun c_463 => ?_) (fun c_463 => ?_)
      · rw [fz_eqN (by omega)] at c_463
        refine lv_iconst (v := (nI 0)) hx hb dL_law_470 (by decide) ?_
        refine fs_vi (y := (bI (0 < nT σ ∧ rk σ rI 4 = 0))) (bI_f (fun z => c_463 z.2)) ?_
        exact K_471 _ hS
      · rw [fz_eqN (by omega)] at c_463
        refine lv_iconst (v := (nI 1)) hx hb dL_law_466 (by decide) ?_
        refine lv_goto (tgt := 471) hx hb dL_law_467 (by decide) ?_
        refine fs_vi (y := (bI (0 < nT σ ∧ rk σ rI 4 = 0))) (bI_t ⟨by omega, c_463⟩) ?_
        exact K_471 _ hS
  refine lv_aload hx hb dL_law_404 (lv_at hl 6 rfl) ?_
  refine lv_iconst (v := (nI 1)) hx hb dL_law_406 (by decide) ?_
  refine fs_iald E hP (k := 243) h43 (by omega) (vp_in_nI (by omega) (by omega)) dL_law_407 ?_
  refine fs_vi (y := fq 1) (congrArg fq (nI_clamp (by omega))) ?_
  refine fs_vi (y := (nI (nT σ))) hQ.2 ?_
  refine lv_if_le (tgt := 444) hx hb dL_law_408 (by decide) (fun c_408 => ?_) (fun c_408 => ?_)
  · rw [fz_leN (by omega)] at c_408
    refine lv_iconst (v := (nI 0)) hx hb dL_law_444 (by decide) ?_
    exact K_445 0 _ (by decide : 0 < 2) hS
  · rw [fz_leN (by omega)] at c_408
    refine lv_iload hx hb dL_law_411 (lv_at hl 11 rfl) ?_
    refine lv_iconst (v := (nI 3)) hx hb dL_law_413 (by decide) ?_
    refine fs_pi (va_runS (As := [.int y, .int (nI 3)]) (rest := []) E.1 (c_L_low l g 246 ct y 3 (by omega) (by omega)) (lk_RL_68 E.1.2.2.2.2 ⟨Nat.le_of_ble_eq_true rfl, Nat.le_of_ble_eq_true rfl⟩) (fpreS E hP hS) rfl rfl hl.1 rfl (lv_room (Nat.le_of_ble_eq_true rfl)) dL_law_414 ⟨(Nat.le_of_ble_eq_true rfl), (Nat.le_of_ble_eq_true rfl)⟩) hS (fun r_414 locs p_414 hS => ?_)
    obtain ⟨v3, hv3, rfl⟩ := p_414
    refine lv_if_le (tgt := 424) hx hb dL_law_417 (by decide) (fun c_417 => ?_) (fun c_417 => ?_)
    · rw [fz_leN (by omega)] at c_417
      refine lv_iconst (v := (nI 0)) hx hb dL_law_424 (by decide) ?_
      have hrl : rI < nT σ := hrI.2 (by omega)
      refine lv_iload hx hb dL_law_425 (lv_at hl 13 rfl) ?_
      refine lv_aload hx hb dL_law_427 (lv_at hl 5 rfl) ?_
      refine lv_aload_n hx hb dL_law_429 rfl (lv_at hl 2 rfl) ?_
      refine lv_aload hx hb dL_law_430 (lv_at hl 6 rfl) ?_
      refine lv_iconst (v := (nI 0)) hx hb dL_law_432 (by decide) ?_
      refine fs_iald E hP (k := 243) h43 (by omega) (vp_in_nI (by omega) (by omega)) dL_law_433 ?_
      refine fs_vi (y := fq 0) (congrArg fq (nI_clamp (by omega))) ?_
      refine fs_vi (y := (nI (nB σ))) hQ.1 ?_
      refine fs_pi (va_runS (As := [.int (nI rI), .ref (fa g 242), .ref (fa g 239), .int (nI (nB σ))]) (rest := [.int (nI 0)]) E.1 (c_L_of l g 246 ct σ (by omega) hG h12 fr h42 hR 239 fl (lkf σ) (by omega) hL hG.wok h39 rI (by omega)) (lk_RL_16 E.1.2.2.2.2 ⟨Nat.le_of_ble_eq_true rfl, Nat.le_of_ble_eq_true rfl⟩) (fpreS E hP hS) rfl rfl hl.1 rfl (lv_room (Nat.le_of_ble_eq_true rfl)) dL_law_434 ⟨(Nat.le_of_ble_eq_true rfl), (Nat.le_of_ble_eq_true rfl)⟩) hS (fun r_434 locs p_434 hS => ?_)
      refine lv_icmp_ne (tgt := 444) hx hb dL_law_437 (by decide) (fun c_437 => ?_) (fun c_437 => ?_)
      · refine lv_iconst (v := (nI 0)) hx hb dL_law_444 (by decide) ?_
        exact K_445 0 _ (by decide : 0 < 2) hS
      · refine lv_iconst (v := (nI 1)) hx hb dL_law_440 (by decide) ?_
        refine lv_goto (tgt := 445) hx hb dL_law_441 (by decide) ?_
        exact K_445 1 _ (by decide : 1 < 2) hS
    · rw [fz_leN (by omega)] at c_417
      refine lv_iconst (v := (nI 1)) hx hb dL_law_420 (by decide) ?_
      refine lv_goto (tgt := 425) hx hb dL_law_421 (by decide) ?_
      have hrl : rI < nT σ := hrI.2 (by omega)
      refine lv_iload hx hb dL_law_425 (lv_at hl 13 rfl) ?_
      refine lv_aload hx hb dL_law_427 (lv_at hl 5 rfl) ?_
      refine lv_aload_n hx hb dL_law_429 rfl (lv_at hl 2 rfl) ?_
      refine lv_aload hx hb dL_law_430 (lv_at hl 6 rfl) ?_
      refine lv_iconst (v := (nI 0)) hx hb dL_law_432 (by decide) ?_
      refine fs_iald E hP (k := 243) h43 (by omega) (vp_in_nI (by omega) (by omega)) dL_law_433 ?_
      refine fs_vi (y := fq 0) (congrArg fq (nI_clamp (by omega))) ?_
      refine fs_vi (y := (nI (nB σ))) hQ.1 ?_
      refine fs_pi (va_runS (As := [.int (nI rI), .ref (fa g 242), .ref (fa g 239), .int (nI (nB σ))]) (rest := [.int (nI 1)]) E.1 (c_L_of l g 246 ct σ (by omega) hG h12 fr h42 hR 239 fl (lkf σ) (by omega) hL hG.wok h39 rI (by omega)) (lk_RL_16 E.1.2.2.2.2 ⟨Nat.le_of_ble_eq_true rfl, Nat.le_of_ble_eq_true rfl⟩) (fpreS E hP hS) rfl rfl hl.1 rfl (lv_room (Nat.le_of_ble_eq_true rfl)) dL_law_434 ⟨(Nat.le_of_ble_eq_true rfl), (Nat.le_of_ble_eq_true rfl)⟩) hS (fun r_434 locs p_434 hS => ?_)
      refine lv_icmp_ne (tgt := 444) hx hb dL_law_437 (by decide) (fun c_437 => ?_) (fun c_437 => ?_)
      · refine lv_iconst (v := (nI 0)) hx hb dL_law_444 (by decide) ?_
        exact K_445 0 _ (by decide : 0 < 2) hS
      · refine lv_iconst (v := (nI 1)) hx hb dL_law_440 (by decide) ?_
        refine lv_goto (tgt := 445) hx hb dL_law_441 (by decide) ?_
        exact K_445 1 _ (by decide : 1 < 2) hS
end LWC
