section LWC
variable {p : Program} {l : Launch} {e : Env} {s : State} {m : MethodId} {below : List Frame} {meth : Method} {c : Code} {H : Heap} {locs : List Loc} {Q : State → Prop} {b : Nat} {ls : Array Slot} {g : fG} {ct : Nat → va_E} {x y : Int32} {tn kc rI : Nat}
variable {σ : Nat → Int32} {k : Nat} {hs : Nat → Nat → Int32} {u1 : Bool} {s1 : Nat → Int32} {u2 : Bool} {s2 : Nat → Int32} {t : Nat → Nat} {len : Nat} {fl fsc fgu fr fq fw fc : Nat → Int32}
set_option maxRecDepth 100000 in
set_option maxHeartbeats 8000000 in
theorem lw_guess (E : fE p m c cL_law 20 s #[.ref b] RL g) (hO : OGAt g ct σ k hs u1 s1 u2 s2 t len) (h12 : nT σ ≤ 12) (hRW : RWS g ct fl fsc fgu fr fq) (hRS : RS σ fl fsc fgu fr fq) (hcw : ct 244 = .inl (fcI g, 6, .inl fw)) (hcc : ct 245 = .inl (fcI g, 51, .inl fc)) (hP : fP g 246 ct H) (hS : va_S (fB g) s.heap H locs) (hrI : (nT σ = 0 → rI = 0) ∧ (nT σ ≠ 0 → rI < nT σ))  (hl : lv_has ls 20 [(0, .ref (sa g)), (1, .ref (fa g 0)), (2, .ref (fa g 239)), (3, .ref (fa g 240)), (4, .ref (fa g 241)), (5, .ref (fa g 242)), (6, .ref (fa g 243)), (7, .ref (fa g 244)), (8, .ref (fa g 245)), (9, .int (nI tn)), (10, .int x), (11, .int y), (12, .int (nI kc)), (13, .int (nI rI))]) (K : ∀ (ct1 : Nat → va_E) (H1 : Heap) (locs1 : List Loc) (ls1 : Array Slot), JJ g ct1 → fP g 246 ct1 H1 → va_S (fB g) s.heap H1 locs1 → lv_has ls1 20 [(0, .ref (sa g)), (1, .ref (fa g 0)), (2, .ref (fa g 239)), (3, .ref (fa g 240)), (4, .ref (fa g 241)), (5, .ref (fa g 242)), (6, .ref (fa g 243)), (7, .ref (fa g 244)), (8, .ref (fa g 245)), (9, .int (nI tn)), (11, .int y)] → W p l e room_1 s m #[.ref b] below meth c H1 locs1 246 1622 Q (F0 m 1122 ls1 [])) : W p l e room_1 s m #[.ref b] below meth c H locs 246 1622 Q (F0 m 654 ls []) := by
  have hx := E.1.1
  have hb := E.1.2.1
  have hN : 246 ≤ 246 := Nat.le_refl _
  have hG := hO.good
  have hn3 := hG.n3
  have hn6 := hG.n6
  have hM := hG.M
  obtain ⟨f7, h7⟩ := hO.obj
  obtain ⟨h39, h40, h41, h42, h43⟩ := hRW
  obtain ⟨⟨hq0, hq1, hQ3⟩, hL, hSc, hGu, hR⟩ := id hRS
  have hQ : fq 0 = nI (nB σ) ∧ fq 1 = nI (nT σ) := ⟨hq0, hq1⟩
  refine lv_iload hx hb dL_law_654 (lv_at hl 11 rfl) ?_
  refine lv_aload hx hb dL_law_656 (lv_at hl 6 rfl) ?_
  refine lv_iconst (v := (nI 0)) hx hb dL_law_658 (by decide) ?_
  refine fs_iald E hP (k := 243) h43 (by omega) (vp_in_nI (by omega) (by omega)) dL_law_659 ?_
  refine fs_vi (y := fq 0) (congrArg fq (nI_clamp (by omega))) ?_
  refine fs_vi (y := (nI (nB σ))) hQ.1 ?_
  refine fs_pi (va_runS (As := [.int y, .int (nI (nB σ))]) (rest := []) E.1 (c_L_low l g 246 ct y (nB σ) (by omega) (by omega)) (lk_RL_68 E.1.2.2.2.2 ⟨Nat.le_of_ble_eq_true rfl, Nat.le_of_ble_eq_true rfl⟩) (fpreS E hP hS) rfl rfl hl.1 rfl (lv_room (Nat.le_of_ble_eq_true rfl)) dL_law_660 ⟨(Nat.le_of_ble_eq_true rfl), (Nat.le_of_ble_eq_true rfl)⟩) hS (fun r_660 locs p_660 hS => ?_)
  obtain ⟨p0, hp0, rfl⟩ := p_660
  refine lv_istore (lv' := [(14, .int (nI p0)), (0, .ref (sa g)), (1, .ref (fa g 0)), (2, .ref (fa g 239)), (3, .ref (fa g 240)), (4, .ref (fa g 241)), (5, .ref (fa g 242)), (6, .ref (fa g 243)), (7, .ref (fa g 244)), (8, .ref (fa g 245)), (9, .int (nI tn)), (10, .int x), (11, .int y), (12, .int (nI kc)), (13, .int (nI rI))]) hx hb dL_law_663 hl (by decide) rfl (fun ls hl => ?_)
  refine lv_iload hx hb dL_law_665 (lv_at hl 0 rfl) ?_
  refine lv_iconst (v := (nI 1)) hx hb dL_law_667 (by decide) ?_
  refine lv_iadd hx hb dL_law_668 ?_
  refine fs_vi (y := nI (p0 + 1)) (nI_add _ _) ?_
  refine lv_iload hx hb dL_law_669 (lv_at hl 12 rfl) ?_
  refine lv_iconst (v := (nI 3)) hx hb dL_law_671 (by decide) ?_
  refine lv_ishr hx hb dL_law_672 ?_
  refine lv_aload hx hb dL_law_673 (lv_at hl 7 rfl) ?_
  refine lv_iconst (v := (nI 0)) hx hb dL_law_675 (by decide) ?_
  refine fs_iald E hP (k := 243) h43 (by omega) (vp_in_nI (by omega) (by omega)) dL_law_676 ?_
  refine fs_vi (y := fq 0) (congrArg fq (nI_clamp (by omega))) ?_
  refine fs_vi (y := (nI (nB σ))) hQ.1 ?_
  refine lv_iconst (v := (nI 1)) hx hb dL_law_677 (by decide) ?_
  refine lv_isub hx hb dL_law_678 ?_
  refine fs_vi (y := (nI (nB σ - 1))) (pk_sub (by omega)) ?_
  refine fs_pi (va_runS (As := [.int (y >>> ((nI 3) &&& 31)), .int (nI (nB σ - 1))]) (rest := [.int (nI (p0 + 1))]) E.1 (c_L_low l g 246 ct (y >>> ((nI 3) &&& 31)) (nB σ - 1) (by omega) (by omega)) (lk_RL_68 E.1.2.2.2.2 ⟨Nat.le_of_ble_eq_true rfl, Nat.le_of_ble_eq_true rfl⟩) (fpreS E hP hS) rfl rfl hl.1 rfl (lv_room (Nat.le_of_ble_eq_true rfl)) dL_law_679 ⟨(Nat.le_of_ble_eq_true rfl), (Nat.le_of_ble_eq_true rfl)⟩) hS (fun r_679 locs p_679 hS => ?_)
  obtain ⟨d1, hd1, rfl⟩ := p_679
  refine lv_iadd hx hb dL_law_682 ?_
  refine fs_vi (y := nI (p0 + 1 + d1)) (nI_add _ _) ?_
  refine lv_aload hx hb dL_law_683 (lv_at hl 7 rfl) ?_
  refine lv_iconst (v := (nI 0)) hx hb dL_law_685 (by decide) ?_
  refine fs_iald E hP (k := 243) h43 (by omega) (vp_in_nI (by omega) (by omega)) dL_law_686 ?_
  refine fs_vi (y := fq 0) (congrArg fq (nI_clamp (by omega))) ?_
  refine fs_vi (y := (nI (nB σ))) hQ.1 ?_
  refine lv_irem hx hb dL_law_687 (fun z => by rw [fz_eqN (by omega)] at z; omega) ?_
  obtain ⟨q0, hq0, hq0n, eq0⟩ := md_ex (n := nB σ) (p := p0) (d := d1) (by omega) (by omega)
  refine fs_vi (y := nI q0) ((pk_rem (by omega) (by omega) (by omega)).trans (congrArg nI eq0)) ?_
  refine lv_istore (lv' := [(15, .int (nI q0)), (14, .int (nI p0)), (0, .ref (sa g)), (1, .ref (fa g 0)), (2, .ref (fa g 239)), (3, .ref (fa g 240)), (4, .ref (fa g 241)), (5, .ref (fa g 242)), (6, .ref (fa g 243)), (7, .ref (fa g 244)), (8, .ref (fa g 245)), (9, .int (nI tn)), (10, .int x), (11, .int y), (12, .int (nI kc)), (13, .int (nI rI))]) hx hb dL_law_688 hl (by decide) rfl (fun ls hl => ?_)
  refine lv_iload hx hb dL_law_690 (lv_at hl 0 rfl) ?_
  refine lv_iconst (v := (nI 1)) hx hb dL_law_692 (by decide) ?_
  refine lv_iadd hx hb dL_law_693 ?_
  refine fs_vi (y := nI (q0 + 1)) (nI_add _ _) ?_
  refine lv_iload hx hb dL_law_694 (lv_at hl 13 rfl) ?_
  refine lv_bipush (v := (nI 6)) hx hb dL_law_696 (by decide) ?_
  refine lv_ishr hx hb dL_law_698 ?_
  refine lv_aload hx hb dL_law_699 (lv_at hl 8 rfl) ?_
  refine lv_iconst (v := (nI 0)) hx hb dL_law_701 (by decide) ?_
  refine fs_iald E hP (k := 243) h43 (by omega) (vp_in_nI (by omega) (by omega)) dL_law_702 ?_
  refine fs_vi (y := fq 0) (congrArg fq (nI_clamp (by omega))) ?_
  refine fs_vi (y := (nI (nB σ))) hQ.1 ?_
  refine lv_iconst (v := (nI 1)) hx hb dL_law_703 (by decide) ?_
  refine lv_isub hx hb dL_law_704 ?_
  refine fs_vi (y := (nI (nB σ - 1))) (pk_sub (by omega)) ?_
  refine fs_pi (va_runS (As := [.int (y >>> ((nI 6) &&& 31)), .int (nI (nB σ - 1))]) (rest := [.int (nI (q0 + 1))]) E.1 (c_L_low l g 246 ct (y >>> ((nI 6) &&& 31)) (nB σ - 1) (by omega) (by omega)) (lk_RL_68 E.1.2.2.2.2 ⟨Nat.le_of_ble_eq_true rfl, Nat.le_of_ble_eq_true rfl⟩) (fpreS E hP hS) rfl rfl hl.1 rfl (lv_room (Nat.le_of_ble_eq_true rfl)) dL_law_705 ⟨(Nat.le_of_ble_eq_true rfl), (Nat.le_of_ble_eq_true rfl)⟩) hS (fun r_705 locs p_705 hS => ?_)
  obtain ⟨d2, hd2, rfl⟩ := p_705
  refine lv_iadd hx hb dL_law_708 ?_
  refine fs_vi (y := nI (q0 + 1 + d2)) (nI_add _ _) ?_
  refine lv_aload hx hb dL_law_709 (lv_at hl 8 rfl) ?_
  refine lv_iconst (v := (nI 0)) hx hb dL_law_711 (by decide) ?_
  refine fs_iald E hP (k := 243) h43 (by omega) (vp_in_nI (by omega) (by omega)) dL_law_712 ?_
  refine fs_vi (y := fq 0) (congrArg fq (nI_clamp (by omega))) ?_
  refine fs_vi (y := (nI (nB σ))) hQ.1 ?_
  refine lv_irem hx hb dL_law_713 (fun z => by rw [fz_eqN (by omega)] at z; omega) ?_
  obtain ⟨b0, hb0, hb0n, eb0⟩ := md_ex (n := nB σ) (p := q0) (d := d2) (by omega) (by omega)
  refine fs_vi (y := nI b0) ((pk_rem (by omega) (by omega) (by omega)).trans (congrArg nI eb0)) ?_
  refine lv_istore (lv' := [(16, .int (nI b0)), (15, .int (nI q0)), (14, .int (nI p0)), (0, .ref (sa g)), (1, .ref (fa g 0)), (2, .ref (fa g 239)), (3, .ref (fa g 240)), (4, .ref (fa g 241)), (5, .ref (fa g 242)), (6, .ref (fa g 243)), (7, .ref (fa g 244)), (8, .ref (fa g 245)), (9, .int (nI tn)), (10, .int x), (11, .int y), (12, .int (nI kc)), (13, .int (nI rI))]) hx hb dL_law_714 hl (by decide) rfl (fun ls hl => ?_)
  refine lv_aload hx hb dL_law_716 (lv_at hl 9 rfl) ?_
  refine lv_aload hx hb dL_law_718 (lv_at hl 8 rfl) ?_
  refine lv_aload hx hb dL_law_720 (lv_at hl 10 rfl) ?_
  refine lv_aload hx hb dL_law_722 (lv_at hl 11 rfl) ?_
  refine fs_v (va_runS (As := [.ref (fa g 243), .ref (fa g 242), .ref (fa g 244), .ref (fa g 245)]) (rest := []) E.1 (c_L_all l g 246 ct σ (by omega) hG h12 fr h42 hR fq h43 hQ fw hcw fc hcc) (lk_RL_32 E.1.2.2.2.2 ⟨Nat.le_of_ble_eq_true rfl, Nat.le_of_ble_eq_true rfl⟩) (fpreS E hP hS) rfl rfl hl.1 rfl (lv_room (Nat.le_of_ble_eq_true rfl)) dL_law_724 ⟨(Nat.le_of_ble_eq_true rfl), (Nat.le_of_ble_eq_true rfl)⟩) hS (fun ct_1 H locs p_724 hP hS => ?_)
  obtain ⟨⟨fw2, hw2⟩, ⟨fC, h45, hCO⟩, hs2⟩ := p_724
  have h_2 : ct_1 239 = .inl (fcI g, 6, .inl fl) := ((hs2 239 (by omega))).trans h39
  have h_3 : ct_1 240 = .inl (fcI g, 6, .inl fsc) := ((hs2 240 (by omega))).trans h40
  have h_4 : ct_1 241 = .inl (fcI g, 6, .inl fgu) := ((hs2 241 (by omega))).trans h41
  have h_5 : ct_1 242 = .inl (fcI g, 60, .inl fr) := ((hs2 242 (by omega))).trans h42
  have h_6 : ct_1 243 = .inl (fcI g, 3, .inl fq) := ((hs2 243 (by omega))).trans h43
  have hO_7 : OGAt g ct_1 σ k hs u1 s1 u2 s2 t len := OGAt.keep hO (fun j h1 => hs2 j (by omega))
  obtain ⟨f7_8, h7_9⟩ := hO_7.obj
  have hlq := (hG.2.2.1 q0 hq0).2.1
  have hWl := Wn_le hG
  have hLl := LK_le hG q0 b0
  refine lv_aload hx hb dL_law_727 (lv_at hl 11 rfl) ?_
  refine lv_iconst (v := (nI 1)) hx hb dL_law_729 (by decide) ?_
  refine lv_bipush (v := (nI 6)) hx hb dL_law_730 (by decide) ?_
  refine lv_iload hx hb dL_law_732 (lv_at hl 1 rfl) ?_
  refine lv_imul hx hb dL_law_734 ?_
  refine fs_vi (y := nI (6 * q0)) (pk_mul _ _) ?_
  refine lv_iadd hx hb dL_law_735 ?_
  refine fs_vi (y := nI (1 + 6 * q0)) (nI_add _ _) ?_
  refine lv_iload hx hb dL_law_736 (lv_at hl 0 rfl) ?_
  refine lv_iadd hx hb dL_law_738 ?_
  refine fs_vi (y := nI (1 + 6 * q0 + b0)) (nI_add _ _) ?_
  refine fs_iald E hP (k := 245) h45 (by omega) (vp_in_nI (by omega) (by omega)) dL_law_739 ?_
  refine fs_vi (y := fC (1 + 6 * q0 + b0)) (congrArg fC (nI_clamp (by omega))) ?_
  refine fs_vi (y := (nI (LKn σ q0 b0))) (hCO.2.1 q0 b0 (by omega) (by omega)) ?_
  refine lv_istore (lv' := [(17, .int (nI (LKn σ q0 b0))), (16, .int (nI b0)), (15, .int (nI q0)), (14, .int (nI p0)), (0, .ref (sa g)), (1, .ref (fa g 0)), (2, .ref (fa g 239)), (3, .ref (fa g 240)), (4, .ref (fa g 241)), (5, .ref (fa g 242)), (6, .ref (fa g 243)), (7, .ref (fa g 244)), (8, .ref (fa g 245)), (9, .int (nI tn)), (10, .int x), (11, .int y), (12, .int (nI kc)), (13, .int (nI rI))]) hx hb dL_law_740 hl (by decide) rfl (fun ls hl => ?_)
  refine fs_cutS (g := g) (F0 m 794 ls [.int (ptF σ q0 b0)]) (fun locs hS => ?_) (fun K_794 => ?_)
  · skip
    refine lv_istore (lv' := [(18, .int (ptF σ q0 b0)), (17, .int (nI (LKn σ q0 b0))), (16, .int (nI b0)), (15, .int (nI q0)), (14, .int (nI p0)), (0, .ref (sa g)), (1, .ref (fa g 0)), (2, .ref (fa g 239)), (3, .ref (fa g 240)), (4, .ref (fa g 241)), (5, .ref (fa g 242)), (6, .ref (fa g 243)), (7, .ref (fa g 244)), (8, .ref (fa g 245)), (9, .int (nI tn)), (10, .int x), (11, .int y), (12, .int (nI kc)), (13, .int (nI rI))]) hx hb dL_law_794 hl (by decide) rfl (fun ls hl => ?_)
    refine fs_cutS (g := g) (F0 m 809 ls [.int (bI (σ (15 + p0) = 0))]) (fun locs hS => ?_) (fun K_809 => ?_)
    · skip
      refine lv_istore (lv' := [(19, .int (bI (σ (15 + p0) = 0))), (18, .int (ptF σ q0 b0)), (17, .int (nI (LKn σ q0 b0))), (16, .int (nI b0)), (15, .int (nI q0)), (14, .int (nI p0)), (0, .ref (sa g)), (1, .ref (fa g 0)), (2, .ref (fa g 239)), (3, .ref (fa g 240)), (4, .ref (fa g 241)), (5, .ref (fa g 242)), (6, .ref (fa g 243)), (7, .ref (fa g 244)), (8, .ref (fa g 245)), (9, .int (nI tn)), (10, .int x), (11, .int y), (12, .int (nI kc)), (13, .int (nI rI))]) hx hb dL_law_809 hl (by decide) rfl (fun ls hl => ?_)
      refine lv_iload hx hb dL_law_811 (lv_at hl 0 rfl) ?_
      refine lv_if_eq (tgt := 825) hx hb dL_law_813 (by decide) (fun c_813 => ?_) (fun c_813 => ?_)
      · have c_813 := (fb_0 (rfl : (bI (σ (15 + p0) = 0)) = (bI (σ (15 + p0) = 0)))).mp c_813
        refine lv_aload hx hb dL_law_825 (lv_at hl 10 rfl) ?_
        refine lv_iload hx hb dL_law_827 (lv_at hl 5 rfl) ?_
        refine lv_iconst (v := (nI 1)) hx hb dL_law_829 (by decide) ?_
        refine fs_iast E hP hS (k := 241) h_4 (by omega) (vp_in_nI (by omega) (by omega)) dL_law_830 (fun ct_10 H locs q_11 hP hS => ?_)
        rw [nI_clamp (by omega)] at q_11
        have h_12 : ct_10 239 = .inl (fcI g, 6, .inl fl) := by rw [q_11]; exact (fu_ne (by omega)).trans h_2
        have h_13 : ct_10 240 = .inl (fcI g, 6, .inl fsc) := by rw [q_11]; exact (fu_ne (by omega)).trans h_3
        have h_14 : ct_10 241 = .inl (fcI g, 6, .inl (upd fgu p0 (nI 1))) := by rw [q_11]; exact fu_eq _ _ _
        have h_15 : ct_10 242 = .inl (fcI g, 60, .inl fr) := by rw [q_11]; exact (fu_ne (by omega)).trans h_5
        have h_16 : ct_10 243 = .inl (fcI g, 3, .inl fq) := by rw [q_11]; exact (fu_ne (by omega)).trans h_6
        have h_17 : ct_10 244 = .inl (fcI g, 6, .inl fw2) := by rw [q_11]; exact (fu_ne (by omega)).trans hw2
        have h_18 : ct_10 245 = .inl (fcI g, 51, .inl fC) := by rw [q_11]; exact (fu_ne (by omega)).trans h45
        have h_19 : ct_10 0 = .inr (7, f7_8) := by rw [q_11]; exact (fu_ne (by omega)).trans h7_9
        have hO_20 : OGAt g ct_10 σ k hs u1 s1 u2 s2 t len := OGAt.keep hO_7 (fun j (h1 : j < 239) => (show ct_10 j = ct_1 j by rw [q_11]; exact fu_ne (by omega)))
        obtain ⟨f7_21, h7_22⟩ := hO_20.obj
        refine lv_aload_n hx hb dL_law_831 rfl (lv_at hl 7 rfl) ?_
        refine lv_iload hx hb dL_law_832 (lv_at hl 5 rfl) ?_
        refine lv_iload hx hb dL_law_834 (lv_at hl 4 rfl) ?_
        refine lv_iload hx hb dL_law_836 (lv_at hl 3 rfl) ?_
        refine fs_i (va_runV (As := [.int (nI p0), .int (nI q0), .int (nI b0)]) (rest := []) E.1 (c_X7_guess l g 246 ct_10 σ k hs u1 s1 u2 s2 t len (by omega) hO_20 (nI p0) (nI q0) (nI b0)) (lk_RL_97 E.1.2.2.2.2 ⟨Nat.le_of_ble_eq_true rfl, Nat.le_of_ble_eq_true rfl⟩) (fpreV E hP hS fc7 h7_22 (by omega)) rfl rfl hl.1 rfl (lv_room (Nat.le_of_ble_eq_true rfl)) dL_law_838 ⟨(Nat.le_of_ble_eq_true rfl), (Nat.le_of_ble_eq_true rfl)⟩) hS (fun r_838 ct_23 H locs p_838 hP hS => ?_)
        rw [nI_cl (show p0 < 1000000 by omega), nI_cl (show q0 < 1000000 by omega), nI_cl (show b0 < 1000000 by omega)] at p_838
        have hin := (⟨⟨hb_in hp0 hn6, hb_in hq0 hn6⟩, hb_in hb0 hn6⟩ : (hbx σ (nI p0) ∧ hbx σ (nI q0)) ∧ hbx σ (nI b0))
        have hdf : ¬ (nI p0 = nI q0 ∨ nI q0 = nI b0) := fun y => y.elim (fun z => by rw [nI_eq (by omega) (by omega)] at z; omega) (fun z => by rw [nI_eq (by omega) (by omega)] at z; omega)
        have h_24 : ct_23 239 = .inl (fcI g, 6, .inl fl) := ((p_838.2.2 239 (by omega))).trans h_12
        have h_25 : ct_23 240 = .inl (fcI g, 6, .inl fsc) := ((p_838.2.2 240 (by omega))).trans h_13
        have h_26 : ct_23 241 = .inl (fcI g, 6, .inl (upd fgu p0 (nI 1))) := ((p_838.2.2 241 (by omega))).trans h_14
        have h_27 : ct_23 242 = .inl (fcI g, 60, .inl fr) := ((p_838.2.2 242 (by omega))).trans h_15
        have h_28 : ct_23 243 = .inl (fcI g, 3, .inl fq) := ((p_838.2.2 243 (by omega))).trans h_16
        have h_29 : ct_23 244 = .inl (fcI g, 6, .inl fw2) := ((p_838.2.2 244 (by omega))).trans h_17
        have h_30 : ct_23 245 = .inl (fcI g, 51, .inl fC) := ((p_838.2.2 245 (by omega))).trans h_18
        have hO_31 := OGc_no (fun y => c_813 y.2.2) p_838.2.1
        obtain ⟨f7_32, h7_33⟩ := OGAt.obj hO_31
        refine fs_vi (y := (-5)) (p_838.1.trans (by rw [if_pos hin, if_neg hdf, if_pos c_813])) ?_
        refine lv_iload hx hb dL_law_841 (lv_at hl 0 rfl) ?_
        refine lv_if_eq (tgt := 857) hx hb dL_law_843 (by decide) (fun c_843 => ?_) (fun c_843 => ?_)
        · have c_843 := (fb_0 (rfl : (bI (σ (15 + p0) = 0)) = (bI (σ (15 + p0) = 0)))).mp c_843
          refine lv_bipush (v := (-5)) hx hb dL_law_857 (by decide) ?_
          refine lv_icmp_eq (tgt := 864) hx hb dL_law_859 (by decide) (fun c_859 => ?_) (fun c_859 => ?_)
          rotate_left
          · exact absurd c_859 (by decide)
          refine lv_goto (tgt := 1122) hx hb dL_law_864 (by decide) ?_
          exact K _ _ _ _ ⟨_, _, _, _, _, _, _, _, _, _, _, _, _, _, _, _, hO_31, h12, ⟨h_24, h_25, h_26, h_27, h_28⟩, (RS_guess0 hG hp0 c_813 hRS), h_29, h_30⟩ hP hS (lv_sub hl [6, 7, 8, 9, 10, 11, 12, 13, 14, 15, 17] rfl)
        · have c_843 := (fb_1 (rfl : (bI (σ (15 + p0) = 0)) = (bI (σ (15 + p0) = 0)))).mp c_843
          exact absurd c_843 c_813
      · have c_813 := (fb_1 (rfl : (bI (σ (15 + p0) = 0)) = (bI (σ (15 + p0) = 0)))).mp c_813
        refine lv_aload_n hx hb dL_law_816 rfl (lv_at hl 9 rfl) ?_
        refine lv_iload hx hb dL_law_817 (lv_at hl 5 rfl) ?_
        refine lv_dup2_11 hx hb dL_law_819 rfl rfl ?_
        refine fs_iald E hP (k := 240) h_3 (by omega) (vp_in_nI (by omega) (by omega)) dL_law_820 ?_
        refine fs_vi (y := fsc p0) (congrArg fsc (nI_clamp (by omega))) ?_
        refine fs_vi (y := (σ (9 + p0))) (hSc _ (by omega)) ?_
        refine lv_iload hx hb dL_law_821 (lv_at hl 1 rfl) ?_
        refine lv_iadd hx hb dL_law_823 ?_
        refine fs_iast E hP hS (k := 240) h_3 (by omega) (vp_in_nI (by omega) (by omega)) dL_law_824 (fun ct_34 H locs q_35 hP hS => ?_)
        rw [nI_clamp (by omega)] at q_35
        have h_36 : ct_34 239 = .inl (fcI g, 6, .inl fl) := by rw [q_35]; exact (fu_ne (by omega)).trans h_2
        have h_37 : ct_34 240 = .inl (fcI g, 6, .inl (upd fsc p0 ((σ (9 + p0)) + (ptF σ q0 b0)))) := by rw [q_35]; exact fu_eq _ _ _
        have h_38 : ct_34 241 = .inl (fcI g, 6, .inl fgu) := by rw [q_35]; exact (fu_ne (by omega)).trans h_4
        have h_39 : ct_34 242 = .inl (fcI g, 60, .inl fr) := by rw [q_35]; exact (fu_ne (by omega)).trans h_5
        have h_40 : ct_34 243 = .inl (fcI g, 3, .inl fq) := by rw [q_35]; exact (fu_ne (by omega)).trans h_6
        have h_41 : ct_34 244 = .inl (fcI g, 6, .inl fw2) := by rw [q_35]; exact (fu_ne (by omega)).trans hw2
        have h_42 : ct_34 245 = .inl (fcI g, 51, .inl fC) := by rw [q_35]; exact (fu_ne (by omega)).trans h45
        have h_43 : ct_34 0 = .inr (7, f7_8) := by rw [q_35]; exact (fu_ne (by omega)).trans h7_9
        refine lv_aload hx hb dL_law_825 (lv_at hl 10 rfl) ?_
        refine lv_iload hx hb dL_law_827 (lv_at hl 5 rfl) ?_
        refine lv_iconst (v := (nI 1)) hx hb dL_law_829 (by decide) ?_
        refine fs_iast E hP hS (k := 241) h_38 (by omega) (vp_in_nI (by omega) (by omega)) dL_law_830 (fun ct_44 H locs q_45 hP hS => ?_)
        rw [nI_clamp (by omega)] at q_45
        have h_46 : ct_44 239 = .inl (fcI g, 6, .inl fl) := by rw [q_45]; exact (fu_ne (by omega)).trans h_36
        have h_47 : ct_44 240 = .inl (fcI g, 6, .inl (upd fsc p0 ((σ (9 + p0)) + (ptF σ q0 b0)))) := by rw [q_45]; exact (fu_ne (by omega)).trans h_37
        have h_48 : ct_44 241 = .inl (fcI g, 6, .inl (upd fgu p0 (nI 1))) := by rw [q_45]; exact fu_eq _ _ _
        have h_49 : ct_44 242 = .inl (fcI g, 60, .inl fr) := by rw [q_45]; exact (fu_ne (by omega)).trans h_39
        have h_50 : ct_44 243 = .inl (fcI g, 3, .inl fq) := by rw [q_45]; exact (fu_ne (by omega)).trans h_40
        have h_51 : ct_44 244 = .inl (fcI g, 6, .inl fw2) := by rw [q_45]; exact (fu_ne (by omega)).trans h_41
        have h_52 : ct_44 245 = .inl (fcI g, 51, .inl fC) := by rw [q_45]; exact (fu_ne (by omega)).trans h_42
        have h_53 : ct_44 0 = .inr (7, f7_8) := by rw [q_45]; exact (fu_ne (by omega)).trans h_43
        have hO_54 : OGAt g ct_44 σ k hs u1 s1 u2 s2 t len := OGAt.keep hO_7 (fun j (h1 : j < 239) => ((show ct_44 j = ct_34 j by rw [q_45]; exact fu_ne (by omega))).trans ((show ct_34 j = ct_1 j by rw [q_35]; exact fu_ne (by omega))))
        obtain ⟨f7_55, h7_56⟩ := hO_54.obj
        refine lv_aload_n hx hb dL_law_831 rfl (lv_at hl 7 rfl) ?_
        refine lv_iload hx hb dL_law_832 (lv_at hl 5 rfl) ?_
        refine lv_iload hx hb dL_law_834 (lv_at hl 4 rfl) ?_
        refine lv_iload hx hb dL_law_836 (lv_at hl 3 rfl) ?_
        refine fs_i (va_runV (As := [.int (nI p0), .int (nI q0), .int (nI b0)]) (rest := []) E.1 (c_X7_guess l g 246 ct_44 σ k hs u1 s1 u2 s2 t len (by omega) hO_54 (nI p0) (nI q0) (nI b0)) (lk_RL_97 E.1.2.2.2.2 ⟨Nat.le_of_ble_eq_true rfl, Nat.le_of_ble_eq_true rfl⟩) (fpreV E hP hS fc7 h7_56 (by omega)) rfl rfl hl.1 rfl (lv_room (Nat.le_of_ble_eq_true rfl)) dL_law_838 ⟨(Nat.le_of_ble_eq_true rfl), (Nat.le_of_ble_eq_true rfl)⟩) hS (fun r_838 ct_57 H locs p_838 hP hS => ?_)
        rw [nI_cl (show p0 < 1000000 by omega), nI_cl (show q0 < 1000000 by omega), nI_cl (show b0 < 1000000 by omega)] at p_838
        have hin := (⟨⟨hb_in hp0 hn6, hb_in hq0 hn6⟩, hb_in hb0 hn6⟩ : (hbx σ (nI p0) ∧ hbx σ (nI q0)) ∧ hbx σ (nI b0))
        have hdf : ¬ (nI p0 = nI q0 ∨ nI q0 = nI b0) := fun y => y.elim (fun z => by rw [nI_eq (by omega) (by omega)] at z; omega) (fun z => by rw [nI_eq (by omega) (by omega)] at z; omega)
        have h_58 : ct_57 239 = .inl (fcI g, 6, .inl fl) := ((p_838.2.2 239 (by omega))).trans h_46
        have h_59 : ct_57 240 = .inl (fcI g, 6, .inl (upd fsc p0 ((σ (9 + p0)) + (ptF σ q0 b0)))) := ((p_838.2.2 240 (by omega))).trans h_47
        have h_60 : ct_57 241 = .inl (fcI g, 6, .inl (upd fgu p0 (nI 1))) := ((p_838.2.2 241 (by omega))).trans h_48
        have h_61 : ct_57 242 = .inl (fcI g, 60, .inl fr) := ((p_838.2.2 242 (by omega))).trans h_49
        have h_62 : ct_57 243 = .inl (fcI g, 3, .inl fq) := ((p_838.2.2 243 (by omega))).trans h_50
        have h_63 : ct_57 244 = .inl (fcI g, 6, .inl fw2) := ((p_838.2.2 244 (by omega))).trans h_51
        have h_64 : ct_57 245 = .inl (fcI g, 51, .inl fC) := ((p_838.2.2 245 (by omega))).trans h_52
        have hO_65 := OGc_yes ⟨hin, hdf, c_813⟩ p_838.2.1
        obtain ⟨f7_66, h7_67⟩ := OGAt.obj hO_65
        refine fs_vi (y := (((σ (9 + p0)) + (ptF σ q0 b0)) + (nI 1000))) (p_838.1.trans (by rw [if_pos hin, if_neg hdf, if_neg (fun y => y c_813)]; exact Int32.add_comm _ _)) ?_
        refine lv_iload hx hb dL_law_841 (lv_at hl 0 rfl) ?_
        refine lv_if_eq (tgt := 857) hx hb dL_law_843 (by decide) (fun c_843 => ?_) (fun c_843 => ?_)
        · have c_843 := (fb_0 (rfl : (bI (σ (15 + p0) = 0)) = (bI (σ (15 + p0) = 0)))).mp c_843
          exact absurd c_813 c_843
        · have c_843 := (fb_1 (rfl : (bI (σ (15 + p0) = 0)) = (bI (σ (15 + p0) = 0)))).mp c_843
          refine lv_aload_n hx hb dL_law_846 rfl (lv_at hl 9 rfl) ?_
          refine lv_iload hx hb dL_law_847 (lv_at hl 5 rfl) ?_
          refine fs_iald E hP (k := 240) h_59 (by omega) (vp_in_nI (by omega) (by omega)) dL_law_849 ?_
          refine fs_vi (y := (upd fsc p0 ((σ (9 + p0)) + (ptF σ q0 b0))) p0) (congrArg (upd fsc p0 ((σ (9 + p0)) + (ptF σ q0 b0))) (nI_clamp (by omega))) ?_
          refine fs_vi (y := ((σ (9 + p0)) + (ptF σ q0 b0))) (upd_eq _ _ _) ?_
          refine lv_sipush (v := (nI 1000)) hx hb dL_law_850 (by decide) ?_
          refine lv_iadd hx hb dL_law_853 ?_
          refine lv_goto (tgt := 859) hx hb dL_law_854 (by decide) ?_
          refine lv_icmp_eq (tgt := 864) hx hb dL_law_859 (by decide) (fun c_859 => ?_) (fun c_859 => ?_)
          rotate_left
          · exact absurd rfl c_859
          refine lv_goto (tgt := 1122) hx hb dL_law_864 (by decide) ?_
          exact K _ _ _ _ ⟨_, _, _, _, _, _, _, _, _, _, _, _, _, _, _, _, hO_65, (by rw [nT_upd (by omega), nT_upd (by omega)]; exact h12), ⟨h_58, h_59, h_60, h_61, h_62⟩, (RS_guess hG hp0 hRS), h_63, h_64⟩ hP hS (lv_sub hl [6, 7, 8, 9, 10, 11, 12, 13, 14, 15, 17] rfl)
    refine lv_aload hx hb dL_law_796 (lv_at hl 9 rfl) ?_
    refine lv_iload hx hb dL_law_798 (lv_at hl 4 rfl) ?_
    refine fs_iald E hP (k := 241) h_4 (by omega) (vp_in_nI (by omega) (by omega)) dL_law_800 ?_
    refine fs_vi (y := fgu p0) (congrArg fgu (nI_clamp (by omega))) ?_
    refine fs_vi (y := (σ (15 + p0))) (hGu _ (by omega)) ?_
    refine lv_if_ne (tgt := 808) hx hb dL_law_801 (by decide) (fun c_801 => ?_) (fun c_801 => ?_)
    · refine lv_iconst (v := (nI 0)) hx hb dL_law_808 (by decide) ?_
      refine fs_vi (y := (bI (σ (15 + p0) = 0))) (bI_f c_801) ?_
      exact K_809 _ hS
    · refine lv_iconst (v := (nI 1)) hx hb dL_law_804 (by decide) ?_
      refine lv_goto (tgt := 809) hx hb dL_law_805 (by decide) ?_
      refine fs_vi (y := (bI (σ (15 + p0) = 0))) (bI_t c_801) ?_
      exact K_809 _ hS
  refine lv_aload_n hx hb dL_law_742 rfl (lv_at hl 6 rfl) ?_
  refine lv_iload hx hb dL_law_743 (lv_at hl 2 rfl) ?_
  refine fs_iald E hP (k := 239) h_2 (by omega) (vp_in_nI (by omega) (by omega)) dL_law_745 ?_
  refine fs_vi (y := fl q0) (congrArg fl (nI_clamp (by omega))) ?_
  refine fs_vi (y := (nI (lkf σ q0))) (hL _ (by omega)) ?_
  refine lv_iload hx hb dL_law_746 (lv_at hl 1 rfl) ?_
  refine lv_icmp_ne (tgt := 775) hx hb dL_law_748 (by decide) (fun c_748 => ?_) (fun c_748 => ?_)
  · rw [nI_eq (by omega) (by omega)] at c_748
    refine lv_aload hx hb dL_law_775 (lv_at hl 12 rfl) ?_
    refine lv_iconst (v := (nI 0)) hx hb dL_law_777 (by decide) ?_
    refine fs_iald E hP (k := 245) h45 (by omega) (vp_in_nI (by omega) (by omega)) dL_law_778 ?_
    refine fs_vi (y := fC 0) (congrArg fC (nI_clamp (by omega))) ?_
    refine fs_vi (y := (nI (Wn σ))) hCO.1 ?_
    refine lv_if_le (tgt := 792) hx hb dL_law_779 (by decide) (fun c_779 => ?_) (fun c_779 => ?_)
    · rw [fz_leN (by omega)] at c_779
      refine lv_bipush (v := (-2)) hx hb dL_law_792 (by decide) ?_
      refine fs_vi (y := (ptF σ q0 b0)) (by unfold ptF; rw [if_neg c_748, if_neg (fun y => by have := y.1; omega)]) ?_
      exact K_794 _ hS
    · rw [fz_leN (by omega)] at c_779
      refine lv_iload hx hb dL_law_782 (lv_at hl 0 rfl) ?_
      refine lv_if_ne (tgt := 792) hx hb dL_law_784 (by decide) (fun c_784 => ?_) (fun c_784 => ?_)
      · rw [fz_eqN (by omega)] at c_784
        refine lv_bipush (v := (-2)) hx hb dL_law_792 (by decide) ?_
        refine fs_vi (y := (ptF σ q0 b0)) (by unfold ptF; rw [if_neg c_748, if_neg (fun y => c_784 y.2)]) ?_
        exact K_794 _ hS
      · rw [fz_eqN (by omega)] at c_784
        refine lv_bipush (v := (-4)) hx hb dL_law_787 (by decide) ?_
        refine lv_goto (tgt := 794) hx hb dL_law_789 (by decide) ?_
        refine fs_vi (y := (ptF σ q0 b0)) (by unfold ptF; rw [if_neg c_748, if_pos ⟨by omega, c_784⟩]) ?_
        exact K_794 _ hS
  · rw [nI_eq (by omega) (by omega)] at c_748
    refine lv_aload hx hb dL_law_751 (lv_at hl 12 rfl) ?_
    refine lv_iconst (v := (nI 0)) hx hb dL_law_753 (by decide) ?_
    refine fs_iald E hP (k := 245) h45 (by omega) (vp_in_nI (by omega) (by omega)) dL_law_754 ?_
    refine fs_vi (y := fC 0) (congrArg fC (nI_clamp (by omega))) ?_
    refine fs_vi (y := (nI (Wn σ))) hCO.1 ?_
    refine lv_if_le (tgt := 771) hx hb dL_law_755 (by decide) (fun c_755 => ?_) (fun c_755 => ?_)
    · rw [fz_leN (by omega)] at c_755
      refine lv_iconst (v := (nI 5)) hx hb dL_law_771 (by decide) ?_
      refine lv_goto (tgt := 794) hx hb dL_law_772 (by decide) ?_
      refine fs_vi (y := (ptF σ q0 b0)) (by unfold ptF; rw [if_pos c_748, if_neg (fun y => by have := y.1; omega)]; rfl) ?_
      exact K_794 _ hS
    · rw [fz_leN (by omega)] at c_755
      refine lv_iload hx hb dL_law_758 (lv_at hl 0 rfl) ?_
      refine lv_aload hx hb dL_law_760 (lv_at hl 12 rfl) ?_
      refine lv_iconst (v := (nI 0)) hx hb dL_law_762 (by decide) ?_
      refine fs_iald E hP (k := 245) h45 (by omega) (vp_in_nI (by omega) (by omega)) dL_law_763 ?_
      refine fs_vi (y := fC 0) (congrArg fC (nI_clamp (by omega))) ?_
      refine fs_vi (y := (nI (Wn σ))) hCO.1 ?_
      refine lv_icmp_ne (tgt := 771) hx hb dL_law_764 (by decide) (fun c_764 => ?_) (fun c_764 => ?_)
      · rw [nI_eq (by omega) (by omega)] at c_764
        refine lv_iconst (v := (nI 5)) hx hb dL_law_771 (by decide) ?_
        refine lv_goto (tgt := 794) hx hb dL_law_772 (by decide) ?_
        refine fs_vi (y := (ptF σ q0 b0)) (by unfold ptF; rw [if_pos c_748, if_neg (fun y => c_764 y.2)]; rfl) ?_
        exact K_794 _ hS
      · rw [nI_eq (by omega) (by omega)] at c_764
        refine lv_iconst (v := (nI 3)) hx hb dL_law_767 (by decide) ?_
        refine lv_goto (tgt := 794) hx hb dL_law_768 (by decide) ?_
        refine fs_vi (y := (ptF σ q0 b0)) (by unfold ptF; rw [if_pos c_748, if_pos ⟨by omega, c_764⟩]; rfl) ?_
        exact K_794 _ hS
end LWC
