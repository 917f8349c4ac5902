section LWC
variable {p : Program} {l : Launch} {e : Env} {s : State} {m : MethodId} {below : List Frame} {meth : Method} {c : Code} {H : Heap} {locs : List Loc} {Q : State → Prop} {b : Nat} {ls : Array Slot} {g : fG} {ct : Nat → va_E} {x y : Int32} {tn kc rI : Nat}
variable {σ : Nat → Int32} {k : Nat} {hs : Nat → Nat → Int32} {u1 : Bool} {s1 : Nat → Int32} {u2 : Bool} {s2 : Nat → Int32} {t : Nat → Nat} {len : Nat} {fl fsc fgu fr fq fw fc : Nat → Int32}
set_option maxRecDepth 100000 in
set_option maxHeartbeats 8000000 in
theorem lw_endAct (E : fE p m c cL_law 20 s #[.ref b] RL g) (hO : OGAt g ct σ k hs u1 s1 u2 s2 t len) (h12 : nT σ ≤ 12) (hRW : RWS g ct fl fsc fgu fr fq) (hRS : RS σ fl fsc fgu fr fq) (hcw : ct 244 = .inl (fcI g, 6, .inl fw)) (hcc : ct 245 = .inl (fcI g, 51, .inl fc)) (hP : fP g 246 ct H) (hS : va_S (fB g) s.heap H locs) (hrI : (nT σ = 0 → rI = 0) ∧ (nT σ ≠ 0 → rI < nT σ))  (hl : lv_has ls 20 [(0, .ref (sa g)), (1, .ref (fa g 0)), (2, .ref (fa g 239)), (3, .ref (fa g 240)), (4, .ref (fa g 241)), (5, .ref (fa g 242)), (6, .ref (fa g 243)), (7, .ref (fa g 244)), (8, .ref (fa g 245)), (9, .int (nI tn)), (10, .int x), (11, .int y), (12, .int (nI kc)), (13, .int (nI rI))]) (K : ∀ (ct1 : Nat → va_E) (H1 : Heap) (locs1 : List Loc) (ls1 : Array Slot), JJ g ct1 → fP g 246 ct1 H1 → va_S (fB g) s.heap H1 locs1 → lv_has ls1 20 [(0, .ref (sa g)), (1, .ref (fa g 0)), (2, .ref (fa g 239)), (3, .ref (fa g 240)), (4, .ref (fa g 241)), (5, .ref (fa g 242)), (6, .ref (fa g 243)), (7, .ref (fa g 244)), (8, .ref (fa g 245)), (9, .int (nI tn)), (11, .int y)] → W p l e room_1 s m #[.ref b] below meth c H1 locs1 246 1622 Q (F0 m 1122 ls1 [])) : W p l e room_1 s m #[.ref b] below meth c H locs 246 1622 Q (F0 m 1027 ls []) := by
  have hx := E.1.1
  have hb := E.1.2.1
  have hN : 246 ≤ 246 := Nat.le_refl _
  have hG := hO.good
  have hn3 := hG.n3
  have hn6 := hG.n6
  have hM := hG.M
  obtain ⟨f7, h7⟩ := hO.obj
  obtain ⟨h39, h40, h41, h42, h43⟩ := hRW
  obtain ⟨⟨hq0, hq1, hQ3⟩, hL, hSc, hGu, hR⟩ := id hRS
  have hQ : fq 0 = nI (nB σ) ∧ fq 1 = nI (nT σ) := ⟨hq0, hq1⟩
  refine lv_iconst (v := (nI 0)) hx hb dL_law_1027 (by decide) ?_
  refine lv_istore (lv' := [(14, .int (nI 0)), (0, .ref (sa g)), (1, .ref (fa g 0)), (2, .ref (fa g 239)), (3, .ref (fa g 240)), (4, .ref (fa g 241)), (5, .ref (fa g 242)), (6, .ref (fa g 243)), (7, .ref (fa g 244)), (8, .ref (fa g 245)), (9, .int (nI tn)), (10, .int x), (11, .int y), (12, .int (nI kc)), (13, .int (nI rI))]) hx hb dL_law_1028 hl (by decide) rfl (fun ls hl => ?_)
  refine fs_ind (g := g) (N := 246) (St := Nat) (fun (kk : Nat) (ct_1 : Nat → va_E) (ls : Array Slot) => lv_has ls 20 [(0, .ref (sa g)), (1, .ref (fa g 0)), (2, .ref (fa g 239)), (3, .ref (fa g 240)), (4, .ref (fa g 241)), (5, .ref (fa g 242)), (6, .ref (fa g 243)), (7, .ref (fa g 244)), (8, .ref (fa g 245)), (9, .int (nI tn)), (11, .int y), (14, .int (nI kk))] ∧ ∃ fs1 : Nat → Int32, ct_1 = fu ct 240 (.inl (fcI g, 6, .inl fs1)) ∧ kk ≤ nT σ ∧ ∀ p, p < nB σ → fs1 p = sSc σ kk (9 + p)) (fun kk => nT σ - kk) ?_ 0 _ _ ls _ ⟨lv_sub hl [1, 2, 3, 4, 5, 6, 7, 8, 9, 10, 12, 0] rfl, ⟨_, by rw [fu_same h40], Nat.zero_le _, hSc⟩⟩ hP hS
  clear hl hP hS
  intro st ct_1 H ls locs hI hP hS ih
  obtain ⟨kk, rfl⟩ : ∃ z, z = st := ⟨_, rfl⟩
  obtain ⟨hl, fs1, hct1, hI⟩ := hI
  have h_2 : ct_1 0 = .inr (7, f7) := by rw [hct1]; exact (fu_ne (by omega)).trans h7
  have h_3 : ct_1 239 = .inl (fcI g, 6, .inl fl) := by rw [hct1]; exact (fu_ne (by omega)).trans h39
  have h_4 : ct_1 240 = .inl (fcI g, 6, .inl fs1) := by rw [hct1]; exact fu_eq _ _ _
  have h_5 : ct_1 241 = .inl (fcI g, 6, .inl fgu) := by rw [hct1]; exact (fu_ne (by omega)).trans h41
  have h_6 : ct_1 242 = .inl (fcI g, 60, .inl fr) := by rw [hct1]; exact (fu_ne (by omega)).trans h42
  have h_7 : ct_1 243 = .inl (fcI g, 3, .inl fq) := by rw [hct1]; exact (fu_ne (by omega)).trans h43
  have h_8 : ct_1 244 = .inl (fcI g, 6, .inl fw) := by rw [hct1]; exact (fu_ne (by omega)).trans hcw
  have h_9 : ct_1 245 = .inl (fcI g, 51, .inl fc) := by rw [hct1]; exact (fu_ne (by omega)).trans hcc
  have hI1 := hI.1
  refine lv_iload hx hb dL_law_1030 (lv_at hl 11 rfl) ?_
  refine lv_aload hx hb dL_law_1032 (lv_at hl 6 rfl) ?_
  refine lv_iconst (v := (nI 1)) hx hb dL_law_1034 (by decide) ?_
  refine fs_iald E hP (k := 243) h_7 (by omega) (vp_in_nI (by omega) (by omega)) dL_law_1035 ?_
  refine fs_vi (y := fq 1) (congrArg fq (nI_clamp (by omega))) ?_
  refine fs_vi (y := (nI (nT σ))) hQ.2 ?_
  refine lv_icmp_ge (tgt := 1077) hx hb dL_law_1036 (by decide) (fun c_1036 => ?_) (fun c_1036 => ?_)
  · rw [nI_leI (by omega) (by omega)] at c_1036
    obtain rfl : kk = nT σ := by omega
    have hs9 := hI.2
    refine lv_iconst (v := (nI 0)) hx hb dL_law_1077 (by decide) ?_
    refine lv_istore (lv' := [(14, .int (nI 0)), (0, .ref (sa g)), (1, .ref (fa g 0)), (2, .ref (fa g 239)), (3, .ref (fa g 240)), (4, .ref (fa g 241)), (5, .ref (fa g 242)), (6, .ref (fa g 243)), (7, .ref (fa g 244)), (8, .ref (fa g 245)), (9, .int (nI tn)), (11, .int y)]) hx hb dL_law_1078 hl (by decide) rfl (fun ls hl => ?_)
    refine fs_ind (g := g) (N := 246) (St := Nat) (fun (zz : Nat) (ct_10 : Nat → va_E) (ls : Array Slot) => lv_has ls 20 [(0, .ref (sa g)), (1, .ref (fa g 0)), (2, .ref (fa g 239)), (3, .ref (fa g 240)), (4, .ref (fa g 241)), (5, .ref (fa g 242)), (6, .ref (fa g 243)), (7, .ref (fa g 244)), (8, .ref (fa g 245)), (9, .int (nI tn)), (11, .int y), (14, .int (nI zz))] ∧ ∃ fg1 : Nat → Int32, ct_10 = fu ct_1 241 (.inl (fcI g, 6, .inl fg1)) ∧ zz ≤ 6 ∧ ∀ p, p < zz → fg1 p = nI 0) (fun zz => 6 - zz) ?_ 0 _ _ ls _ ⟨lv_sub hl [1, 2, 3, 4, 5, 6, 7, 8, 9, 10, 11, 0] rfl, ⟨_, by rw [fu_same h_5], by omega, fun p hp => absurd hp (by omega)⟩⟩ hP hS
    clear hl hP hS
    intro st ct_10 H ls locs hI hP hS ih2
    obtain ⟨zz, rfl⟩ : ∃ z, z = st := ⟨_, rfl⟩
    obtain ⟨hl, fg1, hct2, hI⟩ := hI
    have h_11 : ct_10 0 = .inr (7, f7) := by rw [hct2]; exact (fu_ne (by omega)).trans h_2
    have h_12 : ct_10 239 = .inl (fcI g, 6, .inl fl) := by rw [hct2]; exact (fu_ne (by omega)).trans h_3
    have h_13 : ct_10 240 = .inl (fcI g, 6, .inl fs1) := by rw [hct2]; exact (fu_ne (by omega)).trans h_4
    have h_14 : ct_10 241 = .inl (fcI g, 6, .inl fg1) := by rw [hct2]; exact fu_eq _ _ _
    have h_15 : ct_10 242 = .inl (fcI g, 60, .inl fr) := by rw [hct2]; exact (fu_ne (by omega)).trans h_6
    have h_16 : ct_10 243 = .inl (fcI g, 3, .inl fq) := by rw [hct2]; exact (fu_ne (by omega)).trans h_7
    have h_17 : ct_10 244 = .inl (fcI g, 6, .inl fw) := by rw [hct2]; exact (fu_ne (by omega)).trans h_8
    have h_18 : ct_10 245 = .inl (fcI g, 51, .inl fc) := by rw [hct2]; exact (fu_ne (by omega)).trans h_9
    have hI1 := hI.1
    refine lv_iload hx hb dL_law_1080 (lv_at hl 11 rfl) ?_
    refine lv_bipush (v := (nI 6)) hx hb dL_law_1082 (by decide) ?_
    refine lv_icmp_ge (tgt := 1099) hx hb dL_law_1084 (by decide) (fun c_1084 => ?_) (fun c_1084 => ?_)
    · rw [nI_leI (by omega) (by omega)] at c_1084
      have hg9 : ∀ p, p < 6 → fg1 p = nI 0 := fun p hp => hI.2 p (by omega)
      refine lv_aload hx hb dL_law_1099 (lv_at hl 6 rfl) ?_
      refine lv_iconst (v := (nI 1)) hx hb dL_law_1101 (by decide) ?_
      refine lv_iconst (v := (nI 0)) hx hb dL_law_1102 (by decide) ?_
      refine fs_iast E hP hS (k := 243) h_16 (by omega) (vp_in_nI (by omega) (by omega)) dL_law_1103 (fun ct_19 H locs q_20 hP hS => ?_)
      rw [nI_clamp (by omega)] at q_20
      have h_21 : ct_19 0 = .inr (7, f7) := by rw [q_20]; exact (fu_ne (by omega)).trans h_11
      have h_22 : ct_19 239 = .inl (fcI g, 6, .inl fl) := by rw [q_20]; exact (fu_ne (by omega)).trans h_12
      have h_23 : ct_19 240 = .inl (fcI g, 6, .inl fs1) := by rw [q_20]; exact (fu_ne (by omega)).trans h_13
      have h_24 : ct_19 241 = .inl (fcI g, 6, .inl fg1) := by rw [q_20]; exact (fu_ne (by omega)).trans h_14
      have h_25 : ct_19 242 = .inl (fcI g, 60, .inl fr) := by rw [q_20]; exact (fu_ne (by omega)).trans h_15
      have h_26 : ct_19 243 = .inl (fcI g, 3, .inl (upd fq 1 (nI 0))) := by rw [q_20]; exact fu_eq _ _ _
      have h_27 : ct_19 244 = .inl (fcI g, 6, .inl fw) := by rw [q_20]; exact (fu_ne (by omega)).trans h_17
      have h_28 : ct_19 245 = .inl (fcI g, 51, .inl fc) := by rw [q_20]; exact (fu_ne (by omega)).trans h_18
      have hO_29 : OGAt g ct_19 σ k hs u1 s1 u2 s2 t len := OGAt.keep hO (fun j (h1 : j < 239) => ((show ct_19 j = ct_10 j by rw [q_20]; exact fu_ne (by omega))).trans (((show ct_10 j = ct_1 j by rw [hct2]; exact fu_ne (by omega))).trans ((show ct_1 j = ct j by rw [hct1]; exact fu_ne (by omega)))))
      obtain ⟨f7_30, h7_31⟩ := hO_29.obj
      refine lv_aload_n hx hb dL_law_1104 rfl (lv_at hl 1 rfl) ?_
      refine fs_i (va_runV (As := []) (rest := []) E.1 (c_X7_endAct l g 246 ct_19 σ k hs u1 s1 u2 s2 t len (by omega) hO_29) (lk_RL_107 E.1.2.2.2.2 ⟨Nat.le_of_ble_eq_true rfl, Nat.le_of_ble_eq_true rfl⟩) (fpreV E hP hS fc7 h7_31 (by omega)) rfl rfl hl.1 rfl (lv_room (Nat.le_of_ble_eq_true rfl)) dL_law_1105 ⟨(Nat.le_of_ble_eq_true rfl), (Nat.le_of_ble_eq_true rfl)⟩) hS (fun r_1105 ct_32 H locs p_1105 hP hS => ?_)
      have h_33 : ct_32 239 = .inl (fcI g, 6, .inl fl) := ((p_1105.2.2 239 (by omega))).trans h_22
      have h_34 : ct_32 240 = .inl (fcI g, 6, .inl fs1) := ((p_1105.2.2 240 (by omega))).trans h_23
      have h_35 : ct_32 241 = .inl (fcI g, 6, .inl fg1) := ((p_1105.2.2 241 (by omega))).trans h_24
      have h_36 : ct_32 242 = .inl (fcI g, 60, .inl fr) := ((p_1105.2.2 242 (by omega))).trans h_25
      have h_37 : ct_32 243 = .inl (fcI g, 3, .inl (upd fq 1 (nI 0))) := ((p_1105.2.2 243 (by omega))).trans h_26
      have h_38 : ct_32 244 = .inl (fcI g, 6, .inl fw) := ((p_1105.2.2 244 (by omega))).trans h_27
      have h_39 : ct_32 245 = .inl (fcI g, 51, .inl fc) := ((p_1105.2.2 245 (by omega))).trans h_28
      have hO_40 := p_1105.2.1
      obtain ⟨f7_41, h7_42⟩ := OGAt.obj hO_40
      refine fs_vi (y := ((σ 2) + (nI 1))) (p_1105.1.trans (show sEnd σ 2 = (σ 2) + (nI 1) from rfl)) ?_
      refine lv_aload hx hb dL_law_1108 (lv_at hl 6 rfl) ?_
      refine lv_iconst (v := (nI 2)) hx hb dL_law_1110 (by decide) ?_
      refine lv_dup2_11 hx hb dL_law_1111 rfl rfl ?_
      refine fs_iald E hP (k := 243) h_37 (by omega) (vp_in_nI (by omega) (by omega)) dL_law_1112 ?_
      refine fs_vi (y := (upd fq 1 (nI 0)) 2) (congrArg (upd fq 1 (nI 0)) (nI_clamp (by omega))) ?_
      refine fs_vi (y := (σ 2)) ((upd_ne (by omega)).trans hQ3) ?_
      refine lv_iconst (v := (nI 1)) hx hb dL_law_1113 (by decide) ?_
      refine lv_iadd hx hb dL_law_1114 ?_
      refine lv_dup_x2 hx hb dL_law_1115 rfl rfl rfl ?_
      refine fs_iast E hP hS (k := 243) h_37 (by omega) (vp_in_nI (by omega) (by omega)) dL_law_1116 (fun ct_43 H locs q_44 hP hS => ?_)
      rw [nI_clamp (by omega)] at q_44
      have h_45 : ct_43 239 = .inl (fcI g, 6, .inl fl) := by rw [q_44]; exact (fu_ne (by omega)).trans h_33
      have h_46 : ct_43 240 = .inl (fcI g, 6, .inl fs1) := by rw [q_44]; exact (fu_ne (by omega)).trans h_34
      have h_47 : ct_43 241 = .inl (fcI g, 6, .inl fg1) := by rw [q_44]; exact (fu_ne (by omega)).trans h_35
      have h_48 : ct_43 242 = .inl (fcI g, 60, .inl fr) := by rw [q_44]; exact (fu_ne (by omega)).trans h_36
      have h_49 : ct_43 243 = .inl (fcI g, 3, .inl (upd (upd fq 1 (nI 0)) 2 ((σ 2) + (nI 1)))) := by rw [q_44]; exact fu_eq _ _ _
      have h_50 : ct_43 244 = .inl (fcI g, 6, .inl fw) := by rw [q_44]; exact (fu_ne (by omega)).trans h_38
      have h_51 : ct_43 245 = .inl (fcI g, 51, .inl fc) := by rw [q_44]; exact (fu_ne (by omega)).trans h_39
      have h_52 : ct_43 0 = .inr (7, f7_41) := by rw [q_44]; exact (fu_ne (by omega)).trans h7_42
      refine lv_icmp_eq (tgt := 1122) hx hb dL_law_1117 (by decide) (fun c_1117 => ?_) (fun c_1117 => ?_)
      rotate_left
      · exact absurd rfl c_1117
      have hO_53 := OGAt.keep (ct1 := ct_43) hO_40 (fun j (h1 : j < 239) => (show ct_43 j = ct_32 j by rw [q_44]; exact fu_ne (by omega)))
      exact K _ _ _ _ ⟨_, _, _, _, _, _, _, _, _, _, _, _, _, _, _, _, hO_53, (by rw [nT_end]; exact Nat.zero_le _), ⟨h_45, h_46, h_47, h_48, h_49⟩, (RS_end hG hs9 hg9 hRS), h_50, h_51⟩ hP hS (lv_sub hl [0, 1, 2, 3, 4, 5, 6, 7, 8, 9, 10] rfl)
    · rw [nI_leI (by omega) (by omega)] at c_1084
      refine lv_aload hx hb dL_law_1087 (lv_at hl 4 rfl) ?_
      refine lv_iload hx hb dL_law_1089 (lv_at hl 11 rfl) ?_
      refine lv_iconst (v := (nI 0)) hx hb dL_law_1091 (by decide) ?_
      refine fs_iast E hP hS (k := 241) h_14 (by omega) (vp_in_nI (by omega) (by omega)) dL_law_1092 (fun ct_54 H locs q_55 hP hS => ?_)
      rw [nI_clamp (by omega)] at q_55
      have h_56 : ct_54 0 = .inr (7, f7) := by rw [q_55]; exact (fu_ne (by omega)).trans h_11
      have h_57 : ct_54 239 = .inl (fcI g, 6, .inl fl) := by rw [q_55]; exact (fu_ne (by omega)).trans h_12
      have h_58 : ct_54 240 = .inl (fcI g, 6, .inl fs1) := by rw [q_55]; exact (fu_ne (by omega)).trans h_13
      have h_59 : ct_54 241 = .inl (fcI g, 6, .inl (upd fg1 zz (nI 0))) := by rw [q_55]; exact fu_eq _ _ _
      have h_60 : ct_54 242 = .inl (fcI g, 60, .inl fr) := by rw [q_55]; exact (fu_ne (by omega)).trans h_15
      have h_61 : ct_54 243 = .inl (fcI g, 3, .inl fq) := by rw [q_55]; exact (fu_ne (by omega)).trans h_16
      have h_62 : ct_54 244 = .inl (fcI g, 6, .inl fw) := by rw [q_55]; exact (fu_ne (by omega)).trans h_17
      have h_63 : ct_54 245 = .inl (fcI g, 51, .inl fc) := by rw [q_55]; exact (fu_ne (by omega)).trans h_18
      refine lv_iinc (v := (nI (zz + 1))) (lv' := [(14, .int (nI (zz + 1))), (0, .ref (sa g)), (1, .ref (fa g 0)), (2, .ref (fa g 239)), (3, .ref (fa g 240)), (4, .ref (fa g 241)), (5, .ref (fa g 242)), (6, .ref (fa g 243)), (7, .ref (fa g 244)), (8, .ref (fa g 245)), (9, .int (nI tn)), (11, .int y)]) hx hb dL_law_1093 hl (k := 11) rfl (nI_1 _) (by decide) rfl (fun ls hl => ?_)
      refine lv_goto (tgt := 1080) hx hb dL_law_1096 (by decide) ?_
      exact ih2 (zz + 1) _ _ ls _ (by omega) ⟨lv_sub hl [1, 2, 3, 4, 5, 6, 7, 8, 9, 10, 11, 0] rfl, ⟨_, by rw [q_55, hct2, fu_fu], by omega, fun p hp => (Nat.lt_or_ge p zz).elim (fun q => (upd_ne (by omega)).trans (hI.2 p q)) (fun q => by rw [show p = zz by omega]; exact upd_eq _ _ _)⟩⟩ hP hS
  · rw [nI_leI (by omega) (by omega)] at c_1036
    have hkl : kk < nT σ := by omega
    have hte := (hG.r hkl).2.1
    refine lv_aload_n hx hb dL_law_1039 rfl (lv_at hl 3 rfl) ?_
    refine lv_aload hx hb dL_law_1040 (lv_at hl 5 rfl) ?_
    refine lv_iconst (v := (nI 5)) hx hb dL_law_1042 (by decide) ?_
    refine lv_iload hx hb dL_law_1043 (lv_at hl 11 rfl) ?_
    refine lv_imul hx hb dL_law_1045 ?_
    refine fs_vi (y := nI (5 * kk)) (pk_mul _ _) ?_
    refine fs_iald E hP (k := 242) h_6 (by omega) (vp_in_nI (by omega) (by omega)) dL_law_1046 ?_
    refine fs_vi (y := fr (5 * kk)) (congrArg fr (nI_clamp (by omega))) ?_
    refine fs_vi (y := (nI (rk σ kk 0))) (hR kk 0 (by omega) (by omega)) ?_
    refine lv_dup2_11 hx hb dL_law_1047 rfl rfl ?_
    refine fs_iald E hP (k := 240) h_4 (by omega) (vp_in_nI (by omega) (by omega)) dL_law_1048 ?_
    refine fs_vi (y := fs1 (rk σ kk 0)) (congrArg fs1 (nI_clamp (by omega))) ?_
    refine lv_iload hx hb dL_law_1049 (lv_at hl 11 rfl) ?_
    refine lv_aload hx hb dL_law_1051 (lv_at hl 5 rfl) ?_
    refine lv_aload_n hx hb dL_law_1053 rfl (lv_at hl 2 rfl) ?_
    refine lv_aload hx hb dL_law_1054 (lv_at hl 6 rfl) ?_
    refine lv_iconst (v := (nI 0)) hx hb dL_law_1056 (by decide) ?_
    refine fs_iald E hP (k := 243) h_7 (by omega) (vp_in_nI (by omega) (by omega)) dL_law_1057 ?_
    refine fs_vi (y := fq 0) (congrArg fq (nI_clamp (by omega))) ?_
    refine fs_vi (y := (nI (nB σ))) hQ.1 ?_
    refine fs_pi (va_runS (As := [.int (nI kk), .ref (fa g 242), .ref (fa g 239), .int (nI (nB σ))]) (rest := [.int (fs1 (rk σ kk 0)), .int (nI (rk σ kk 0)), .ref (fa g 240)]) E.1 (c_L_of l g 246 ct_1 σ (by omega) hG h12 fr h_6 hR 239 fl (lkf σ) (by omega) hL hG.wok h_3 kk (by omega)) (lk_RL_16 E.1.2.2.2.2 ⟨Nat.le_of_ble_eq_true rfl, Nat.le_of_ble_eq_true rfl⟩) (fpreS E hP hS) rfl rfl hl.1 rfl (lv_room (Nat.le_of_ble_eq_true rfl)) dL_law_1058 ⟨(Nat.le_of_ble_eq_true rfl), (Nat.le_of_ble_eq_true rfl)⟩) hS (fun r_1058 locs p_1058 hS => ?_)
    refine fs_cutS (g := g) (F0 m 1069 ls [.int (if hdr σ (lkf σ) kk = true then nI 1 else -1) , .int (fs1 (rk σ kk 0)) , .int (nI (rk σ kk 0)) , .ref (fa g 240)]) (fun locs hS => ?_) (fun K_1069 => ?_)
    · skip
      refine lv_iadd hx hb dL_law_1069 ?_
      refine fs_iast E hP hS (k := 240) h_4 (by omega) (vp_in_nI (by omega) (by omega)) dL_law_1070 (fun ct_64 H locs q_65 hP hS => ?_)
      rw [nI_clamp (by omega)] at q_65
      have h_66 : ct_64 0 = .inr (7, f7) := by rw [q_65]; exact (fu_ne (by omega)).trans h_2
      have h_67 : ct_64 239 = .inl (fcI g, 6, .inl fl) := by rw [q_65]; exact (fu_ne (by omega)).trans h_3
      have h_68 : ct_64 240 = .inl (fcI g, 6, .inl (upd fs1 (rk σ kk 0) ((fs1 (rk σ kk 0)) + (if hdr σ (lkf σ) kk = true then nI 1 else -1)))) := by rw [q_65]; exact fu_eq _ _ _
      have h_69 : ct_64 241 = .inl (fcI g, 6, .inl fgu) := by rw [q_65]; exact (fu_ne (by omega)).trans h_5
      have h_70 : ct_64 242 = .inl (fcI g, 60, .inl fr) := by rw [q_65]; exact (fu_ne (by omega)).trans h_6
      have h_71 : ct_64 243 = .inl (fcI g, 3, .inl fq) := by rw [q_65]; exact (fu_ne (by omega)).trans h_7
      have h_72 : ct_64 244 = .inl (fcI g, 6, .inl fw) := by rw [q_65]; exact (fu_ne (by omega)).trans h_8
      have h_73 : ct_64 245 = .inl (fcI g, 51, .inl fc) := by rw [q_65]; exact (fu_ne (by omega)).trans h_9
      refine lv_iinc (v := (nI (kk + 1))) (lv' := [(14, .int (nI (kk + 1))), (0, .ref (sa g)), (1, .ref (fa g 0)), (2, .ref (fa g 239)), (3, .ref (fa g 240)), (4, .ref (fa g 241)), (5, .ref (fa g 242)), (6, .ref (fa g 243)), (7, .ref (fa g 244)), (8, .ref (fa g 245)), (9, .int (nI tn)), (11, .int y)]) hx hb dL_law_1071 hl (k := 11) rfl (nI_1 _) (by decide) rfl (fun ls hl => ?_)
      refine lv_goto (tgt := 1030) hx hb dL_law_1074 (by decide) ?_
      exact ih (kk + 1) _ _ ls _ (by omega) ⟨lv_sub hl [1, 2, 3, 4, 5, 6, 7, 8, 9, 10, 11, 0] rfl, ⟨_, by rw [q_65, hct1, fu_fu], by omega, sSc_s hG (by omega) hI.2⟩⟩ hP hS
    refine lv_if_eq (tgt := 1068) hx hb dL_law_1061 (by decide) (fun c_1061 => ?_) (fun c_1061 => ?_)
    · have c_1061 := (fb_0 p_1058).mp c_1061
      refine lv_iconst (v := (-1)) hx hb dL_law_1068 (by decide) ?_
      refine fs_vi (y := (if hdr σ (lkf σ) kk = true then nI 1 else -1)) ((if_neg c_1061).symm) ?_
      exact K_1069 _ hS
    · have c_1061 := (fb_1 p_1058).mp c_1061
      refine lv_iconst (v := (nI 1)) hx hb dL_law_1064 (by decide) ?_
      refine lv_goto (tgt := 1069) hx hb dL_law_1065 (by decide) ?_
      refine fs_vi (y := (if hdr σ (lkf σ) kk = true then nI 1 else -1)) ((if_pos c_1061).symm) ?_
      exact K_1069 _ hS
end LWC
