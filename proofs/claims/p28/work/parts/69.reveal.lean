section LWC
variable {p : Program} {l : Launch} {e : Env} {s : State} {m : MethodId} {below : List Frame} {meth : Method} {c : Code} {H : Heap} {locs : List Loc} {Q : State → Prop} {b : Nat} {ls : Array Slot} {g : fG} {ct : Nat → va_E} {x y : Int32} {tn kc rI : Nat}
variable {σ : Nat → Int32} {k : Nat} {hs : Nat → Nat → Int32} {u1 : Bool} {s1 : Nat → Int32} {u2 : Bool} {s2 : Nat → Int32} {t : Nat → Nat} {len : Nat} {fl fsc fgu fr fq fw fc : Nat → Int32}
set_option maxRecDepth 100000 in
set_option maxHeartbeats 8000000 in
theorem lw_reveal (E : fE p m c cL_law 20 s #[.ref b] RL g) (hO : OGAt g ct σ k hs u1 s1 u2 s2 t len) (h12 : nT σ ≤ 12) (hRW : RWS g ct fl fsc fgu fr fq) (hRS : RS σ fl fsc fgu fr fq) (hcw : ct 244 = .inl (fcI g, 6, .inl fw)) (hcc : ct 245 = .inl (fcI g, 51, .inl fc)) (hP : fP g 246 ct H) (hS : va_S (fB g) s.heap H locs) (hrI : (nT σ = 0 → rI = 0) ∧ (nT σ ≠ 0 → rI < nT σ))  (hl : lv_has ls 20 [(0, .ref (sa g)), (1, .ref (fa g 0)), (2, .ref (fa g 239)), (3, .ref (fa g 240)), (4, .ref (fa g 241)), (5, .ref (fa g 242)), (6, .ref (fa g 243)), (7, .ref (fa g 244)), (8, .ref (fa g 245)), (9, .int (nI tn)), (10, .int x), (11, .int y), (12, .int (nI kc)), (13, .int (nI rI))]) (K : ∀ (ct1 : Nat → va_E) (H1 : Heap) (locs1 : List Loc) (ls1 : Array Slot), JJ g ct1 → fP g 246 ct1 H1 → va_S (fB g) s.heap H1 locs1 → lv_has ls1 20 [(0, .ref (sa g)), (1, .ref (fa g 0)), (2, .ref (fa g 239)), (3, .ref (fa g 240)), (4, .ref (fa g 241)), (5, .ref (fa g 242)), (6, .ref (fa g 243)), (7, .ref (fa g 244)), (8, .ref (fa g 245)), (9, .int (nI tn)), (11, .int y)] → W p l e room_1 s m #[.ref b] below meth c H1 locs1 246 1622 Q (F0 m 1122 ls1 [])) : W p l e room_1 s m #[.ref b] below meth c H locs 246 1622 Q (F0 m 945 ls []) := by
  have hx := E.1.1
  have hb := E.1.2.1
  have hN : 246 ≤ 246 := Nat.le_refl _
  have hG := hO.good
  have hn3 := hG.n3
  have hn6 := hG.n6
  have hM := hG.M
  obtain ⟨f7, h7⟩ := hO.obj
  obtain ⟨h39, h40, h41, h42, h43⟩ := hRW
  obtain ⟨⟨hq0, hq1, hQ3⟩, hL, hSc, hGu, hR⟩ := id hRS
  have hQ : fq 0 = nI (nB σ) ∧ fq 1 = nI (nT σ) := ⟨hq0, hq1⟩
  refine lv_iconst (v := (nI 0)) hx hb dL_law_945 (by decide) ?_
  refine lv_istore (lv' := [(14, .int (nI 0)), (0, .ref (sa g)), (1, .ref (fa g 0)), (2, .ref (fa g 239)), (3, .ref (fa g 240)), (4, .ref (fa g 241)), (5, .ref (fa g 242)), (6, .ref (fa g 243)), (7, .ref (fa g 244)), (8, .ref (fa g 245)), (9, .int (nI tn)), (10, .int x), (11, .int y), (12, .int (nI kc)), (13, .int (nI rI))]) hx hb dL_law_946 hl (by decide) rfl (fun ls hl => ?_)
  refine lv_iconst (v := (nI 0)) hx hb dL_law_948 (by decide) ?_
  refine lv_istore (lv' := [(15, .int (nI 0)), (14, .int (nI 0)), (0, .ref (sa g)), (1, .ref (fa g 0)), (2, .ref (fa g 239)), (3, .ref (fa g 240)), (4, .ref (fa g 241)), (5, .ref (fa g 242)), (6, .ref (fa g 243)), (7, .ref (fa g 244)), (8, .ref (fa g 245)), (9, .int (nI tn)), (10, .int x), (11, .int y), (12, .int (nI kc)), (13, .int (nI rI))]) hx hb dL_law_949 hl (by decide) rfl (fun ls hl => ?_)
  refine fs_ind (g := g) (N := 246) (St := Nat) (fun (kk : Nat) (ct_1 : Nat → va_E) (ls : Array Slot) => lv_has ls 20 [(0, .ref (sa g)), (1, .ref (fa g 0)), (2, .ref (fa g 239)), (3, .ref (fa g 240)), (4, .ref (fa g 241)), (5, .ref (fa g 242)), (6, .ref (fa g 243)), (7, .ref (fa g 244)), (8, .ref (fa g 245)), (9, .int (nI tn)), (11, .int y), (14, .int (nI (cN (fun r => decide (rk σ r 4 = 0)) kk))), (15, .int (nI kk))] ∧ ∃ fr1 : Nat → Int32, ct_1 = fu ct 242 (.inl (fcI g, 60, .inl fr1)) ∧ kk ≤ nT σ ∧ LR (sRev σ kk) fr1) (fun kk => nT σ - kk) ?_ 0 _ _ ls _ ⟨lv_sub hl [2, 3, 4, 5, 6, 7, 8, 9, 10, 11, 13, 1, 0] rfl, ⟨_, by rw [fu_same h42], Nat.zero_le _, hR⟩⟩ hP hS
  clear hl hP hS
  intro st ct_1 H ls locs hI hP hS ih
  obtain ⟨kk, rfl⟩ : ∃ z, z = st := ⟨_, rfl⟩
  obtain ⟨hl, fr1, hct1, hI⟩ := hI
  have h_2 : ct_1 0 = .inr (7, f7) := by rw [hct1]; exact (fu_ne (by omega)).trans h7
  have h_3 : ct_1 239 = .inl (fcI g, 6, .inl fl) := by rw [hct1]; exact (fu_ne (by omega)).trans h39
  have h_4 : ct_1 240 = .inl (fcI g, 6, .inl fsc) := by rw [hct1]; exact (fu_ne (by omega)).trans h40
  have h_5 : ct_1 241 = .inl (fcI g, 6, .inl fgu) := by rw [hct1]; exact (fu_ne (by omega)).trans h41
  have h_6 : ct_1 242 = .inl (fcI g, 60, .inl fr1) := by rw [hct1]; exact fu_eq _ _ _
  have h_7 : ct_1 243 = .inl (fcI g, 3, .inl fq) := by rw [hct1]; exact (fu_ne (by omega)).trans h43
  have h_8 : ct_1 244 = .inl (fcI g, 6, .inl fw) := by rw [hct1]; exact (fu_ne (by omega)).trans hcw
  have h_9 : ct_1 245 = .inl (fcI g, 51, .inl fc) := by rw [hct1]; exact (fu_ne (by omega)).trans hcc
  have hI1 := hI.1
  refine lv_iload hx hb dL_law_951 (lv_at hl 12 rfl) ?_
  refine lv_aload hx hb dL_law_953 (lv_at hl 6 rfl) ?_
  refine lv_iconst (v := (nI 1)) hx hb dL_law_955 (by decide) ?_
  refine fs_iald E hP (k := 243) h_7 (by omega) (vp_in_nI (by omega) (by omega)) dL_law_956 ?_
  refine fs_vi (y := fq 1) (congrArg fq (nI_clamp (by omega))) ?_
  refine fs_vi (y := (nI (nT σ))) hQ.2 ?_
  refine lv_icmp_ge (tgt := 1013) hx hb dL_law_957 (by decide) (fun c_957 => ?_) (fun c_957 => ?_)
  · rw [nI_leI (by omega) (by omega)] at c_957
    obtain rfl : kk = nT σ := by omega
    have hO_10 : OGAt g ct_1 σ k hs u1 s1 u2 s2 t len := OGAt.keep hO (fun j (h1 : j < 239) => (show ct_1 j = ct j by rw [hct1]; exact fu_ne (by omega)))
    obtain ⟨f7_11, h7_12⟩ := hO_10.obj
    refine lv_aload_n hx hb dL_law_1013 rfl (lv_at hl 1 rfl) ?_
    refine fs_i (va_runV (As := []) (rest := []) E.1 (c_X7_reveal l g 246 ct_1 σ k hs u1 s1 u2 s2 t len (by omega) hO_10) (lk_RL_103 E.1.2.2.2.2 ⟨Nat.le_of_ble_eq_true rfl, Nat.le_of_ble_eq_true rfl⟩) (fpreV E hP hS fc7 h7_12 (by omega)) rfl rfl hl.1 rfl (lv_room (Nat.le_of_ble_eq_true rfl)) dL_law_1014 ⟨(Nat.le_of_ble_eq_true rfl), (Nat.le_of_ble_eq_true rfl)⟩) hS (fun r_1014 ct_13 H locs p_1014 hP hS => ?_)
    have h_14 : ct_13 239 = .inl (fcI g, 6, .inl fl) := ((p_1014.2.2 239 (by omega))).trans h_3
    have h_15 : ct_13 240 = .inl (fcI g, 6, .inl fsc) := ((p_1014.2.2 240 (by omega))).trans h_4
    have h_16 : ct_13 241 = .inl (fcI g, 6, .inl fgu) := ((p_1014.2.2 241 (by omega))).trans h_5
    have h_17 : ct_13 242 = .inl (fcI g, 60, .inl fr1) := ((p_1014.2.2 242 (by omega))).trans h_6
    have h_18 : ct_13 243 = .inl (fcI g, 3, .inl fq) := ((p_1014.2.2 243 (by omega))).trans h_7
    have h_19 : ct_13 244 = .inl (fcI g, 6, .inl fw) := ((p_1014.2.2 244 (by omega))).trans h_8
    have h_20 : ct_13 245 = .inl (fcI g, 51, .inl fc) := ((p_1014.2.2 245 (by omega))).trans h_9
    have hO_21 := p_1014.2.1
    obtain ⟨f7_22, h7_23⟩ := OGAt.obj hO_21
    refine fs_vi (y := (nI (cN (fun r => decide (rk σ r 4 = 0)) (nT σ)))) p_1014.1 ?_
    refine lv_iload hx hb dL_law_1017 (lv_at hl 11 rfl) ?_
    refine lv_icmp_eq (tgt := 1024) hx hb dL_law_1019 (by decide) (fun c_1019 => ?_) (fun c_1019 => ?_)
    rotate_left
    · exact absurd rfl c_1019
    refine lv_goto (tgt := 1122) hx hb dL_law_1024 (by decide) ?_
    exact K _ _ _ _ ⟨_, _, _, _, _, _, _, _, _, _, _, _, _, _, _, _, hO_21, (by rw [nT_rev]; exact h12), ⟨h_14, h_15, h_16, h_17, h_18⟩, (RS_rev hn6 hI.2 hRS), h_19, h_20⟩ hP hS (lv_sub hl [0, 1, 2, 3, 4, 5, 6, 7, 8, 9, 10] rfl)
  · rw [nI_leI (by omega) (by omega)] at c_957
    have hkl : kk < nT σ := by omega
    have hst := (hG.how4 hkl).2
    refine lv_aload hx hb dL_law_960 (lv_at hl 5 rfl) ?_
    refine lv_iconst (v := (nI 5)) hx hb dL_law_962 (by decide) ?_
    refine lv_iload hx hb dL_law_963 (lv_at hl 12 rfl) ?_
    refine lv_imul hx hb dL_law_965 ?_
    refine fs_vi (y := nI (5 * kk)) (pk_mul _ _) ?_
    refine lv_iconst (v := (nI 4)) hx hb dL_law_966 (by decide) ?_
    refine lv_iadd hx hb dL_law_967 ?_
    refine fs_vi (y := nI (5 * kk + 4)) (nI_add _ _) ?_
    refine fs_iald E hP (k := 242) h_6 (by omega) (vp_in_nI (by omega) (by omega)) dL_law_968 ?_
    refine fs_vi (y := fr1 (5 * kk + 4)) (congrArg fr1 (nI_clamp (by omega))) ?_
    refine fs_vi (y := (nI (rk σ kk 4))) ((hI.2 kk 4 (by rw [nT_rev]; omega) (by omega)).trans (congrArg nI (rk_rev σ (by omega)))) ?_
    refine lv_if_eq (tgt := 975) hx hb dL_law_969 (by decide) (fun c_969 => ?_) (fun c_969 => ?_)
    · rw [fz_eqN (by omega)] at c_969
      refine lv_aload hx hb dL_law_975 (lv_at hl 5 rfl) ?_
      refine lv_iconst (v := (nI 5)) hx hb dL_law_977 (by decide) ?_
      refine lv_iload hx hb dL_law_978 (lv_at hl 12 rfl) ?_
      refine lv_imul hx hb dL_law_980 ?_
      refine fs_vi (y := nI (5 * kk)) (pk_mul _ _) ?_
      refine lv_iconst (v := (nI 4)) hx hb dL_law_981 (by decide) ?_
      refine lv_iadd hx hb dL_law_982 ?_
      refine fs_vi (y := nI (5 * kk + 4)) (nI_add _ _) ?_
      refine lv_iload hx hb dL_law_983 (lv_at hl 12 rfl) ?_
      refine lv_aload hx hb dL_law_985 (lv_at hl 5 rfl) ?_
      refine lv_aload_n hx hb dL_law_987 rfl (lv_at hl 2 rfl) ?_
      refine lv_aload hx hb dL_law_988 (lv_at hl 6 rfl) ?_
      refine lv_iconst (v := (nI 0)) hx hb dL_law_990 (by decide) ?_
      refine fs_iald E hP (k := 243) h_7 (by omega) (vp_in_nI (by omega) (by omega)) dL_law_991 ?_
      refine fs_vi (y := fq 0) (congrArg fq (nI_clamp (by omega))) ?_
      refine fs_vi (y := (nI (nB σ))) hQ.1 ?_
      refine fs_vi (y := nI (nB (sRev σ kk))) (congrArg nI (nB_rev σ kk).symm) ?_
      refine fs_pi (va_runS (As := [.int (nI kk), .ref (fa g 242), .ref (fa g 239), .int (nI (nB (sRev σ kk)))]) (rest := [.int (nI (5 * kk + 4)), .ref (fa g 242)]) E.1 (c_L_of l g 246 ct_1 (sRev σ kk) (by omega) (Good_rev hG kk) (by rw [nT_rev]; exact h12) fr1 h_6 hI.2 239 fl (lkf σ) (by omega) (fun p hp => hL p (by rw [nB_rev] at hp; exact hp)) (by rw [nB_rev]; exact hG.wok) h_3 kk (by rw [nT_rev]; omega)) (lk_RL_16 E.1.2.2.2.2 ⟨Nat.le_of_ble_eq_true rfl, Nat.le_of_ble_eq_true rfl⟩) (fpreS E hP hS) rfl rfl hl.1 rfl (lv_room (Nat.le_of_ble_eq_true rfl)) dL_law_992 ⟨(Nat.le_of_ble_eq_true rfl), (Nat.le_of_ble_eq_true rfl)⟩) hS (fun r_992 locs p_992 hS => ?_)
      have p992 := p_992.trans (bI_iff (Q := hdr σ (lkf σ) kk = true) (by rw [hdr_rev]))
      refine fs_cutS (g := g) (F0 m 1003 ls [.int (nI (if hdr σ (lkf σ) kk = true then 1 else 2)) , .int (nI (5 * kk + 4)) , .ref (fa g 242)]) (fun locs hS => ?_) (fun K_1003 => ?_)
      · skip
        refine fs_iast E hP hS (k := 242) h_6 (by omega) (vp_in_nI (by omega) (by omega)) dL_law_1003 (fun ct_24 H locs q_25 hP hS => ?_)
        rw [nI_clamp (by omega)] at q_25
        have h_26 : ct_24 0 = .inr (7, f7) := by rw [q_25]; exact (fu_ne (by omega)).trans h_2
        have h_27 : ct_24 239 = .inl (fcI g, 6, .inl fl) := by rw [q_25]; exact (fu_ne (by omega)).trans h_3
        have h_28 : ct_24 240 = .inl (fcI g, 6, .inl fsc) := by rw [q_25]; exact (fu_ne (by omega)).trans h_4
        have h_29 : ct_24 241 = .inl (fcI g, 6, .inl fgu) := by rw [q_25]; exact (fu_ne (by omega)).trans h_5
        have h_30 : ct_24 242 = .inl (fcI g, 60, .inl (upd fr1 (5 * kk + 4) (nI (if hdr σ (lkf σ) kk = true then 1 else 2)))) := by rw [q_25]; exact fu_eq _ _ _
        have h_31 : ct_24 243 = .inl (fcI g, 3, .inl fq) := by rw [q_25]; exact (fu_ne (by omega)).trans h_7
        have h_32 : ct_24 244 = .inl (fcI g, 6, .inl fw) := by rw [q_25]; exact (fu_ne (by omega)).trans h_8
        have h_33 : ct_24 245 = .inl (fcI g, 51, .inl fc) := by rw [q_25]; exact (fu_ne (by omega)).trans h_9
        refine lv_iinc (v := (nI (cN (fun r => decide (rk σ r 4 = 0)) (kk + 1)))) (lv' := [(14, .int (nI (cN (fun r => decide (rk σ r 4 = 0)) (kk + 1)))), (0, .ref (sa g)), (1, .ref (fa g 0)), (2, .ref (fa g 239)), (3, .ref (fa g 240)), (4, .ref (fa g 241)), (5, .ref (fa g 242)), (6, .ref (fa g 243)), (7, .ref (fa g 244)), (8, .ref (fa g 245)), (9, .int (nI tn)), (11, .int y), (15, .int (nI kk))]) hx hb dL_law_1004 hl (k := 11) rfl (by rw [cN_t (decide_eq_true c_969)]; exact nI_1 _) (by decide) rfl (fun ls hl => ?_)
        refine lv_iinc (v := (nI (kk + 1))) (lv' := [(15, .int (nI (kk + 1))), (14, .int (nI (cN (fun r => decide (rk σ r 4 = 0)) (kk + 1)))), (0, .ref (sa g)), (1, .ref (fa g 0)), (2, .ref (fa g 239)), (3, .ref (fa g 240)), (4, .ref (fa g 241)), (5, .ref (fa g 242)), (6, .ref (fa g 243)), (7, .ref (fa g 244)), (8, .ref (fa g 245)), (9, .int (nI tn)), (11, .int y)]) hx hb dL_law_1007 hl (k := 12) rfl (nI_1 _) (by decide) rfl (fun ls hl => ?_)
        refine lv_goto (tgt := 951) hx hb dL_law_1010 (by decide) ?_
        exact ih (kk + 1) _ _ ls _ (by omega) ⟨lv_sub hl [2, 3, 4, 5, 6, 7, 8, 9, 10, 11, 12, 1, 0] rfl, ⟨_, by rw [q_25, hct1, fu_fu], by omega, LR_rev hI.2 c_969⟩⟩ hP hS
      refine lv_if_eq (tgt := 1002) hx hb dL_law_995 (by decide) (fun c_995 => ?_) (fun c_995 => ?_)
      · have c_995 := (fb_0 p992).mp c_995
        refine lv_iconst (v := (nI 2)) hx hb dL_law_1002 (by decide) ?_
        refine fs_vi (y := (nI (if hdr σ (lkf σ) kk = true then 1 else 2))) (by rw [if_neg c_995]) ?_
        exact K_1003 _ hS
      · have c_995 := (fb_1 p992).mp c_995
        refine lv_iconst (v := (nI 1)) hx hb dL_law_998 (by decide) ?_
        refine lv_goto (tgt := 1003) hx hb dL_law_999 (by decide) ?_
        refine fs_vi (y := (nI (if hdr σ (lkf σ) kk = true then 1 else 2))) (by rw [if_pos c_995]) ?_
        exact K_1003 _ hS
    · rw [fz_eqN (by omega)] at c_969
      have e14 : (nI (cN (fun r => decide (rk σ r 4 = 0)) kk)) = (nI (cN (fun r => decide (rk σ r 4 = 0)) (kk + 1))) := by rw [cN_f (decide_eq_false c_969)]
      rw [e14] at hl
      refine lv_goto (tgt := 1007) hx hb dL_law_972 (by decide) ?_
      refine lv_iinc (v := (nI (kk + 1))) (lv' := [(15, .int (nI (kk + 1))), (0, .ref (sa g)), (1, .ref (fa g 0)), (2, .ref (fa g 239)), (3, .ref (fa g 240)), (4, .ref (fa g 241)), (5, .ref (fa g 242)), (6, .ref (fa g 243)), (7, .ref (fa g 244)), (8, .ref (fa g 245)), (9, .int (nI tn)), (11, .int y), (14, .int (nI (cN (fun r => decide (rk σ r 4 = 0)) (kk + 1))))]) hx hb dL_law_1007 hl (k := 12) rfl (nI_1 _) (by decide) rfl (fun ls hl => ?_)
      refine lv_goto (tgt := 951) hx hb dL_law_1010 (by decide) ?_
      exact ih (kk + 1) _ _ ls _ (by omega) ⟨lv_sub hl [1, 2, 3, 4, 5, 6, 7, 8, 9, 10, 11, 12, 0] rfl, ⟨_, hct1, by omega, LR_rev0 hI.2 c_969⟩⟩ hP hS
end LWC
