section LWC
variable {p : Program} {l : Launch} {e : Env} {s : State} {m : MethodId} {below : List Frame} {meth : Method} {c : Code} {H : Heap} {locs : List Loc} {Q : State → Prop} {b : Nat} {ls : Array Slot} {g : fG} {ct : Nat → va_E} {x y : Int32} {tn kc rI : Nat}
variable {σ : Nat → Int32} {k : Nat} {hs : Nat → Nat → Int32} {u1 : Bool} {s1 : Nat → Int32} {u2 : Bool} {s2 : Nat → Int32} {t : Nat → Nat} {len : Nat} {fl fsc fgu fr fq fw fc : Nat → Int32}
set_option maxRecDepth 100000 in
set_option maxHeartbeats 8000000 in
theorem lw_look (E : fE p m c cL_law 20 s #[.ref b] RL g) (hO : OGAt g ct σ k hs u1 s1 u2 s2 t len) (h12 : nT σ ≤ 12) (hRW : RWS g ct fl fsc fgu fr fq) (hRS : RS σ fl fsc fgu fr fq) (hcw : ct 244 = .inl (fcI g, 6, .inl fw)) (hcc : ct 245 = .inl (fcI g, 51, .inl fc)) (hP : fP g 246 ct H) (hS : va_S (fB g) s.heap H locs) (hrI : (nT σ = 0 → rI = 0) ∧ (nT σ ≠ 0 → rI < nT σ))  (hl : lv_has ls 20 [(0, .ref (sa g)), (1, .ref (fa g 0)), (2, .ref (fa g 239)), (3, .ref (fa g 240)), (4, .ref (fa g 241)), (5, .ref (fa g 242)), (6, .ref (fa g 243)), (7, .ref (fa g 244)), (8, .ref (fa g 245)), (9, .int (nI tn)), (10, .int x), (11, .int y), (12, .int (nI kc)), (13, .int (nI rI))]) (K : ∀ (ct1 : Nat → va_E) (H1 : Heap) (locs1 : List Loc) (ls1 : Array Slot), JJ g ct1 → fP g 246 ct1 H1 → va_S (fB g) s.heap H1 locs1 → lv_has ls1 20 [(0, .ref (sa g)), (1, .ref (fa g 0)), (2, .ref (fa g 239)), (3, .ref (fa g 240)), (4, .ref (fa g 241)), (5, .ref (fa g 242)), (6, .ref (fa g 243)), (7, .ref (fa g 244)), (8, .ref (fa g 245)), (9, .int (nI tn)), (11, .int y)] → W p l e room_1 s m #[.ref b] below meth c H1 locs1 246 1622 Q (F0 m 1122 ls1 [])) : W p l e room_1 s m #[.ref b] below meth c H locs 246 1622 Q (F0 m 874 ls []) := by
  have hx := E.1.1
  have hb := E.1.2.1
  have hN : 246 ≤ 246 := Nat.le_refl _
  have hG := hO.good
  have hn3 := hG.n3
  have hn6 := hG.n6
  have hM := hG.M
  obtain ⟨f7, h7⟩ := hO.obj
  obtain ⟨h39, h40, h41, h42, h43⟩ := hRW
  obtain ⟨⟨hq0, hq1, hQ3⟩, hL, hSc, hGu, hR⟩ := id hRS
  have hQ : fq 0 = nI (nB σ) ∧ fq 1 = nI (nT σ) := ⟨hq0, hq1⟩
  refine lv_iload hx hb dL_law_874 (lv_at hl 11 rfl) ?_
  refine lv_aload hx hb dL_law_876 (lv_at hl 6 rfl) ?_
  refine lv_iconst (v := (nI 0)) hx hb dL_law_878 (by decide) ?_
  refine fs_iald E hP (k := 243) h43 (by omega) (vp_in_nI (by omega) (by omega)) dL_law_879 ?_
  refine fs_vi (y := fq 0) (congrArg fq (nI_clamp (by omega))) ?_
  refine fs_vi (y := (nI (nB σ))) hQ.1 ?_
  refine fs_pi (va_runS (As := [.int y, .int (nI (nB σ))]) (rest := []) E.1 (c_L_low l g 246 ct y (nB σ) (by omega) (by omega)) (lk_RL_68 E.1.2.2.2.2 ⟨Nat.le_of_ble_eq_true rfl, Nat.le_of_ble_eq_true rfl⟩) (fpreS E hP hS) rfl rfl hl.1 rfl (lv_room (Nat.le_of_ble_eq_true rfl)) dL_law_880 ⟨(Nat.le_of_ble_eq_true rfl), (Nat.le_of_ble_eq_true rfl)⟩) hS (fun r_880 locs p_880 hS => ?_)
  obtain ⟨p0, hp0, rfl⟩ := p_880
  refine lv_istore (lv' := [(14, .int (nI p0)), (0, .ref (sa g)), (1, .ref (fa g 0)), (2, .ref (fa g 239)), (3, .ref (fa g 240)), (4, .ref (fa g 241)), (5, .ref (fa g 242)), (6, .ref (fa g 243)), (7, .ref (fa g 244)), (8, .ref (fa g 245)), (9, .int (nI tn)), (10, .int x), (11, .int y), (12, .int (nI kc)), (13, .int (nI rI))]) hx hb dL_law_883 hl (by decide) rfl (fun ls hl => ?_)
  refine lv_iload hx hb dL_law_885 (lv_at hl 0 rfl) ?_
  refine lv_iconst (v := (nI 1)) hx hb dL_law_887 (by decide) ?_
  refine lv_iadd hx hb dL_law_888 ?_
  refine fs_vi (y := nI (p0 + 1)) (nI_add _ _) ?_
  refine lv_iload hx hb dL_law_889 (lv_at hl 12 rfl) ?_
  refine lv_iconst (v := (nI 3)) hx hb dL_law_891 (by decide) ?_
  refine lv_ishr hx hb dL_law_892 ?_
  refine lv_aload hx hb dL_law_893 (lv_at hl 7 rfl) ?_
  refine lv_iconst (v := (nI 0)) hx hb dL_law_895 (by decide) ?_
  refine fs_iald E hP (k := 243) h43 (by omega) (vp_in_nI (by omega) (by omega)) dL_law_896 ?_
  refine fs_vi (y := fq 0) (congrArg fq (nI_clamp (by omega))) ?_
  refine fs_vi (y := (nI (nB σ))) hQ.1 ?_
  refine lv_iconst (v := (nI 1)) hx hb dL_law_897 (by decide) ?_
  refine lv_isub hx hb dL_law_898 ?_
  refine fs_vi (y := (nI (nB σ - 1))) (pk_sub (by omega)) ?_
  refine fs_pi (va_runS (As := [.int (y >>> ((nI 3) &&& 31)), .int (nI (nB σ - 1))]) (rest := [.int (nI (p0 + 1))]) E.1 (c_L_low l g 246 ct (y >>> ((nI 3) &&& 31)) (nB σ - 1) (by omega) (by omega)) (lk_RL_68 E.1.2.2.2.2 ⟨Nat.le_of_ble_eq_true rfl, Nat.le_of_ble_eq_true rfl⟩) (fpreS E hP hS) rfl rfl hl.1 rfl (lv_room (Nat.le_of_ble_eq_true rfl)) dL_law_899 ⟨(Nat.le_of_ble_eq_true rfl), (Nat.le_of_ble_eq_true rfl)⟩) hS (fun r_899 locs p_899 hS => ?_)
  obtain ⟨d1, hd1, rfl⟩ := p_899
  refine lv_iadd hx hb dL_law_902 ?_
  refine fs_vi (y := nI (p0 + 1 + d1)) (nI_add _ _) ?_
  refine lv_aload hx hb dL_law_903 (lv_at hl 7 rfl) ?_
  refine lv_iconst (v := (nI 0)) hx hb dL_law_905 (by decide) ?_
  refine fs_iald E hP (k := 243) h43 (by omega) (vp_in_nI (by omega) (by omega)) dL_law_906 ?_
  refine fs_vi (y := fq 0) (congrArg fq (nI_clamp (by omega))) ?_
  refine fs_vi (y := (nI (nB σ))) hQ.1 ?_
  refine lv_irem hx hb dL_law_907 (fun z => by rw [fz_eqN (by omega)] at z; omega) ?_
  obtain ⟨b0, hb0, hb0n, eb0⟩ := md_ex (n := nB σ) (p := p0) (d := d1) (by omega) (by omega)
  refine fs_vi (y := nI b0) ((pk_rem (by omega) (by omega) (by omega)).trans (congrArg nI eb0)) ?_
  refine lv_istore (lv' := [(15, .int (nI b0)), (14, .int (nI p0)), (0, .ref (sa g)), (1, .ref (fa g 0)), (2, .ref (fa g 239)), (3, .ref (fa g 240)), (4, .ref (fa g 241)), (5, .ref (fa g 242)), (6, .ref (fa g 243)), (7, .ref (fa g 244)), (8, .ref (fa g 245)), (9, .int (nI tn)), (10, .int x), (11, .int y), (12, .int (nI kc)), (13, .int (nI rI))]) hx hb dL_law_908 hl (by decide) rfl (fun ls hl => ?_)
  refine lv_aload_n hx hb dL_law_910 rfl (lv_at hl 3 rfl) ?_
  refine lv_iload hx hb dL_law_911 (lv_at hl 1 rfl) ?_
  refine lv_iload hx hb dL_law_913 (lv_at hl 0 rfl) ?_
  refine fs_i (va_runV (As := [.int (nI p0), .int (nI b0)]) (rest := []) E.1 (c_X7_look l g 246 ct σ k hs u1 s1 u2 s2 t len (by omega) hO (nI p0) (nI b0)) (lk_RL_100 E.1.2.2.2.2 ⟨Nat.le_of_ble_eq_true rfl, Nat.le_of_ble_eq_true rfl⟩) (fpreV E hP hS fc7 h7 (by omega)) rfl rfl hl.1 rfl (lv_room (Nat.le_of_ble_eq_true rfl)) dL_law_915 ⟨(Nat.le_of_ble_eq_true rfl), (Nat.le_of_ble_eq_true rfl)⟩) hS (fun r_915 ct_1 H locs p_915 hP hS => ?_)
  rw [nI_cl (show p0 < 1000000 by omega)] at p_915
  have hin := (⟨hb_in hp0 hn6, hb_in hb0 hn6⟩ : hbx σ (nI p0) ∧ hbx σ (nI b0))
  have hdf : ¬ nI p0 = nI b0 := fun z => by rw [nI_eq (by omega) (by omega)] at z; omega
  have h_2 : ct_1 239 = .inl (fcI g, 6, .inl fl) := ((p_915.2.2 239 (by omega))).trans h39
  have h_3 : ct_1 240 = .inl (fcI g, 6, .inl fsc) := ((p_915.2.2 240 (by omega))).trans h40
  have h_4 : ct_1 241 = .inl (fcI g, 6, .inl fgu) := ((p_915.2.2 241 (by omega))).trans h41
  have h_5 : ct_1 242 = .inl (fcI g, 60, .inl fr) := ((p_915.2.2 242 (by omega))).trans h42
  have h_6 : ct_1 243 = .inl (fcI g, 3, .inl fq) := ((p_915.2.2 243 (by omega))).trans h43
  have h_7 : ct_1 244 = .inl (fcI g, 6, .inl fw) := ((p_915.2.2 244 (by omega))).trans hcw
  have h_8 : ct_1 245 = .inl (fcI g, 51, .inl fc) := ((p_915.2.2 245 (by omega))).trans hcc
  have hO_9 := OGc_yes ⟨hin, hdf⟩ p_915.2.1
  obtain ⟨f7_10, h7_11⟩ := OGAt.obj hO_9
  refine fs_vi (y := (nI (lkf σ p0))) (p_915.1.trans (by rw [if_pos hin, if_neg hdf])) ?_
  refine lv_aload_n hx hb dL_law_918 rfl (lv_at hl 4 rfl) ?_
  refine lv_iload hx hb dL_law_919 (lv_at hl 1 rfl) ?_
  refine fs_iald E hP (k := 239) h_2 (by omega) (vp_in_nI (by omega) (by omega)) dL_law_921 ?_
  refine fs_vi (y := fl p0) (congrArg fl (nI_clamp (by omega))) ?_
  refine fs_vi (y := (nI (lkf σ p0))) (hL _ (by omega)) ?_
  refine lv_icmp_eq (tgt := 927) hx hb dL_law_922 (by decide) (fun c_922 => ?_) (fun c_922 => ?_)
  rotate_left
  · exact absurd rfl c_922
  refine lv_aload_n hx hb dL_law_927 rfl (lv_at hl 4 rfl) ?_
  refine lv_iload hx hb dL_law_928 (lv_at hl 1 rfl) ?_
  refine lv_iload hx hb dL_law_930 (lv_at hl 0 rfl) ?_
  refine fs_iast E hP hS (k := 239) h_2 (by omega) (vp_in_nI (by omega) (by omega)) dL_law_932 (fun ct_12 H locs q_13 hP hS => ?_)
  rw [nI_clamp (by omega)] at q_13
  have h_14 : ct_12 239 = .inl (fcI g, 6, .inl (upd fl p0 (nI b0))) := by rw [q_13]; exact fu_eq _ _ _
  have h_15 : ct_12 240 = .inl (fcI g, 6, .inl fsc) := by rw [q_13]; exact (fu_ne (by omega)).trans h_3
  have h_16 : ct_12 241 = .inl (fcI g, 6, .inl fgu) := by rw [q_13]; exact (fu_ne (by omega)).trans h_4
  have h_17 : ct_12 242 = .inl (fcI g, 60, .inl fr) := by rw [q_13]; exact (fu_ne (by omega)).trans h_5
  have h_18 : ct_12 243 = .inl (fcI g, 3, .inl fq) := by rw [q_13]; exact (fu_ne (by omega)).trans h_6
  have h_19 : ct_12 244 = .inl (fcI g, 6, .inl fw) := by rw [q_13]; exact (fu_ne (by omega)).trans h_7
  have h_20 : ct_12 245 = .inl (fcI g, 51, .inl fc) := by rw [q_13]; exact (fu_ne (by omega)).trans h_8
  have h_21 : ct_12 0 = .inr (7, f7_10) := by rw [q_13]; exact (fu_ne (by omega)).trans h7_11
  refine lv_goto (tgt := 1122) hx hb dL_law_933 (by decide) ?_
  have hO_22 := OGAt.keep (ct1 := ct_12) hO_9 (fun j (h1 : j < 239) => (show ct_12 j = ct_1 j by rw [q_13]; exact fu_ne (by omega)))
  exact K _ _ _ _ ⟨_, _, _, _, _, _, _, _, _, _, _, _, _, _, _, _, hO_22, (by rw [nT_upd (by omega)]; exact h12), ⟨h_14, h_15, h_16, h_17, h_18⟩, (RS_look hG hp0 (by omega) hRS), h_19, h_20⟩ hP hS (lv_sub hl [2, 3, 4, 5, 6, 7, 8, 9, 10, 11, 13] rfl)
end LWC
