section LWC
variable {p : Program} {l : Launch} {e : Env} {s : State} {m : MethodId} {below : List Frame} {meth : Method} {c : Code} {H : Heap} {locs : List Loc} {Q : State → Prop} {b : Nat} {ls : Array Slot} {g : fG} {ct : Nat → va_E} {x y : Int32} {tn kc rI : Nat}
variable {σ : Nat → Int32} {k : Nat} {hs : Nat → Nat → Int32} {u1 : Bool} {s1 : Nat → Int32} {u2 : Bool} {s2 : Nat → Int32} {t : Nat → Nat} {len : Nat} {fl fsc fgu fr fq fw fc : Nat → Int32}
set_option maxRecDepth 100000 in
set_option maxHeartbeats 8000000 in
theorem lw_tell (E : fE p m c cL_law 20 s #[.ref b] RL g) (hO : OGAt g ct σ k hs u1 s1 u2 s2 t len) (h12 : nT σ ≤ 12) (hRW : RWS g ct fl fsc fgu fr fq) (hRS : RS σ fl fsc fgu fr fq) (hcw : ct 244 = .inl (fcI g, 6, .inl fw)) (hcc : ct 245 = .inl (fcI g, 51, .inl fc)) (hP : fP g 246 ct H) (hS : va_S (fB g) s.heap H locs) (hrI : (nT σ = 0 → rI = 0) ∧ (nT σ ≠ 0 → rI < nT σ))  (hl : lv_has ls 20 [(0, .ref (sa g)), (1, .ref (fa g 0)), (2, .ref (fa g 239)), (3, .ref (fa g 240)), (4, .ref (fa g 241)), (5, .ref (fa g 242)), (6, .ref (fa g 243)), (7, .ref (fa g 244)), (8, .ref (fa g 245)), (9, .int (nI tn)), (10, .int x), (11, .int y), (12, .int (nI kc)), (13, .int (nI rI))]) (K : ∀ (ct1 : Nat → va_E) (H1 : Heap) (locs1 : List Loc) (ls1 : Array Slot), JJ g ct1 → fP g 246 ct1 H1 → va_S (fB g) s.heap H1 locs1 → lv_has ls1 20 [(0, .ref (sa g)), (1, .ref (fa g 0)), (2, .ref (fa g 239)), (3, .ref (fa g 240)), (4, .ref (fa g 241)), (5, .ref (fa g 242)), (6, .ref (fa g 243)), (7, .ref (fa g 244)), (8, .ref (fa g 245)), (9, .int (nI tn)), (11, .int y)] → W p l e room_1 s m #[.ref b] below meth c H1 locs1 246 1622 Q (F0 m 1122 ls1 [])) (K2 : ∀ (ct1 : Nat → va_E) (H1 : Heap) (locs1 : List Loc) (ls1 : Array Slot), JJ g ct1 → fP g 246 ct1 H1 → va_S (fB g) s.heap H1 locs1 → lv_has ls1 20 [(0, .ref (sa g)), (1, .ref (fa g 0)), (2, .ref (fa g 239)), (3, .ref (fa g 240)), (4, .ref (fa g 241)), (5, .ref (fa g 242)), (6, .ref (fa g 243)), (7, .ref (fa g 244)), (8, .ref (fa g 245)), (9, .int (nI tn))] → W p l e room_1 s m #[.ref b] below meth c H1 locs1 246 1622 Q (F0 m 1147 ls1 [])) : W p l e room_1 s m #[.ref b] below meth c H locs 246 1622 Q (F0 m 200 ls []) := by
  have hx := E.1.1
  have hb := E.1.2.1
  have hN : 246 ≤ 246 := Nat.le_refl _
  have hG := hO.good
  have hn3 := hG.n3
  have hn6 := hG.n6
  have hM := hG.M
  obtain ⟨f7, h7⟩ := hO.obj
  obtain ⟨h39, h40, h41, h42, h43⟩ := hRW
  obtain ⟨⟨hq0, hq1, hQ3⟩, hL, hSc, hGu, hR⟩ := id hRS
  have hQ : fq 0 = nI (nB σ) ∧ fq 1 = nI (nT σ) := ⟨hq0, hq1⟩
  refine lv_aload hx hb dL_law_200 (lv_at hl 6 rfl) ?_
  refine lv_iconst (v := (nI 1)) hx hb dL_law_202 (by decide) ?_
  refine fs_iald E hP (k := 243) h43 (by omega) (vp_in_nI (by omega) (by omega)) dL_law_203 ?_
  refine fs_vi (y := fq 1) (congrArg fq (nI_clamp (by omega))) ?_
  refine fs_vi (y := (nI (nT σ))) hQ.2 ?_
  refine lv_bipush (v := (nI 12)) hx hb dL_law_204 (by decide) ?_
  refine lv_icmp_ne (tgt := 212) hx hb dL_law_206 (by decide) (fun c_206 => ?_) (fun c_206 => ?_)
  · rw [nI_eq (by omega) (by omega)] at c_206
    refine lv_iconst (v := (nI 5)) hx hb dL_law_212 (by decide) ?_
    refine lv_aload hx hb dL_law_213 (lv_at hl 6 rfl) ?_
    refine lv_iconst (v := (nI 1)) hx hb dL_law_215 (by decide) ?_
    refine fs_iald E hP (k := 243) h43 (by omega) (vp_in_nI (by omega) (by omega)) dL_law_216 ?_
    refine fs_vi (y := fq 1) (congrArg fq (nI_clamp (by omega))) ?_
    refine fs_vi (y := (nI (nT σ))) hQ.2 ?_
    refine lv_imul hx hb dL_law_217 ?_
    refine fs_vi (y := nI (5 * (nT σ))) (pk_mul _ _) ?_
    refine lv_istore (lv' := [(14, .int (nI (5 * (nT σ)))), (0, .ref (sa g)), (1, .ref (fa g 0)), (2, .ref (fa g 239)), (3, .ref (fa g 240)), (4, .ref (fa g 241)), (5, .ref (fa g 242)), (6, .ref (fa g 243)), (7, .ref (fa g 244)), (8, .ref (fa g 245)), (9, .int (nI tn)), (10, .int x), (11, .int y), (12, .int (nI kc)), (13, .int (nI rI))]) hx hb dL_law_218 hl (by decide) rfl (fun ls hl => ?_)
    refine lv_iload hx hb dL_law_220 (lv_at hl 12 rfl) ?_
    refine lv_bipush (v := (nI 6)) hx hb dL_law_222 (by decide) ?_
    refine fs_pi (va_runS (As := [.int y, .int (nI 6)]) (rest := []) E.1 (c_L_low l g 246 ct y 6 (by omega) (by omega)) (lk_RL_68 E.1.2.2.2.2 ⟨Nat.le_of_ble_eq_true rfl, Nat.le_of_ble_eq_true rfl⟩) (fpreS E hP hS) rfl rfl hl.1 rfl (lv_room (Nat.le_of_ble_eq_true rfl)) dL_law_224 ⟨(Nat.le_of_ble_eq_true rfl), (Nat.le_of_ble_eq_true rfl)⟩) hS (fun r_224 locs p_224 hS => ?_)
    obtain ⟨kd, hkd, rfl⟩ := p_224
    refine lv_istore (lv' := [(15, .int (nI kd)), (14, .int (nI (5 * (nT σ)))), (0, .ref (sa g)), (1, .ref (fa g 0)), (2, .ref (fa g 239)), (3, .ref (fa g 240)), (4, .ref (fa g 241)), (5, .ref (fa g 242)), (6, .ref (fa g 243)), (7, .ref (fa g 244)), (8, .ref (fa g 245)), (9, .int (nI tn)), (10, .int x), (11, .int y), (12, .int (nI kc)), (13, .int (nI rI))]) hx hb dL_law_227 hl (by decide) rfl (fun ls hl => ?_)
    refine lv_iload hx hb dL_law_229 (lv_at hl 13 rfl) ?_
    refine lv_iconst (v := (nI 3)) hx hb dL_law_231 (by decide) ?_
    refine lv_ishr hx hb dL_law_232 ?_
    refine lv_aload hx hb dL_law_233 (lv_at hl 8 rfl) ?_
    refine lv_iconst (v := (nI 0)) hx hb dL_law_235 (by decide) ?_
    refine fs_iald E hP (k := 243) h43 (by omega) (vp_in_nI (by omega) (by omega)) dL_law_236 ?_
    refine fs_vi (y := fq 0) (congrArg fq (nI_clamp (by omega))) ?_
    refine fs_vi (y := (nI (nB σ))) hQ.1 ?_
    refine fs_pi (va_runS (As := [.int (y >>> ((nI 3) &&& 31)), .int (nI (nB σ))]) (rest := []) E.1 (c_L_low l g 246 ct (y >>> ((nI 3) &&& 31)) (nB σ) (by omega) (by omega)) (lk_RL_68 E.1.2.2.2.2 ⟨Nat.le_of_ble_eq_true rfl, Nat.le_of_ble_eq_true rfl⟩) (fpreS E hP hS) rfl rfl hl.1 rfl (lv_room (Nat.le_of_ble_eq_true rfl)) dL_law_237 ⟨(Nat.le_of_ble_eq_true rfl), (Nat.le_of_ble_eq_true rfl)⟩) hS (fun r_237 locs p_237 hS => ?_)
    obtain ⟨a0, ha0, rfl⟩ := p_237
    refine lv_istore (lv' := [(16, .int (nI a0)), (15, .int (nI kd)), (14, .int (nI (5 * (nT σ)))), (0, .ref (sa g)), (1, .ref (fa g 0)), (2, .ref (fa g 239)), (3, .ref (fa g 240)), (4, .ref (fa g 241)), (5, .ref (fa g 242)), (6, .ref (fa g 243)), (7, .ref (fa g 244)), (8, .ref (fa g 245)), (9, .int (nI tn)), (10, .int x), (11, .int y), (12, .int (nI kc)), (13, .int (nI rI))]) hx hb dL_law_240 hl (by decide) rfl (fun ls hl => ?_)
    refine fs_cutN (g := g) (fun b0 => (kd = 4 → b0 < 7) ∧ (kd ≠ 4 → b0 < nB σ)) (fun b0 => F0 m 272 ls [.int (nI b0)]) (fun b0 locs hb0 hS => ?_) (fun K_272 => ?_)
    · have hb09 := hb0
      obtain ⟨hb4, hb5⟩ := hb0
      have hb7 : b0 < 7 := by
        by_cases e9 : kd = 4
        · exact hb4 e9
        · have := hb5 e9; omega
      refine lv_istore (lv' := [(17, .int (nI b0)), (16, .int (nI a0)), (15, .int (nI kd)), (14, .int (nI (5 * (nT σ)))), (0, .ref (sa g)), (1, .ref (fa g 0)), (2, .ref (fa g 239)), (3, .ref (fa g 240)), (4, .ref (fa g 241)), (5, .ref (fa g 242)), (6, .ref (fa g 243)), (7, .ref (fa g 244)), (8, .ref (fa g 245)), (9, .int (nI tn)), (10, .int x), (11, .int y), (12, .int (nI kc)), (13, .int (nI rI))]) hx hb dL_law_272 hl (by decide) rfl (fun ls hl => ?_)
      refine fs_cutS (g := g) (F0 m 292 ls [.int (bI (suN kd a0 b0))]) (fun locs hS => ?_) (fun K_292 => ?_)
      · skip
        refine lv_istore (lv' := [(18, .int (bI (suN kd a0 b0))), (17, .int (nI b0)), (16, .int (nI a0)), (15, .int (nI kd)), (14, .int (nI (5 * (nT σ)))), (0, .ref (sa g)), (1, .ref (fa g 0)), (2, .ref (fa g 239)), (3, .ref (fa g 240)), (4, .ref (fa g 241)), (5, .ref (fa g 242)), (6, .ref (fa g 243)), (7, .ref (fa g 244)), (8, .ref (fa g 245)), (9, .int (nI tn)), (10, .int x), (11, .int y), (12, .int (nI kc)), (13, .int (nI rI))]) hx hb dL_law_292 hl (by decide) rfl (fun ls hl => ?_)
        refine lv_iload hx hb dL_law_294 (lv_at hl 16 rfl) ?_
        refine lv_bipush (v := (nI 9)) hx hb dL_law_296 (by decide) ?_
        refine lv_ishr hx hb dL_law_298 ?_
        refine lv_aload hx hb dL_law_299 (lv_at hl 11 rfl) ?_
        refine lv_iconst (v := (nI 0)) hx hb dL_law_301 (by decide) ?_
        refine fs_iald E hP (k := 243) h43 (by omega) (vp_in_nI (by omega) (by omega)) dL_law_302 ?_
        refine fs_vi (y := fq 0) (congrArg fq (nI_clamp (by omega))) ?_
        refine fs_vi (y := (nI (nB σ))) hQ.1 ?_
        refine fs_pi (va_runS (As := [.int (y >>> ((nI 9) &&& 31)), .int (nI (nB σ))]) (rest := []) E.1 (c_L_low l g 246 ct (y >>> ((nI 9) &&& 31)) (nB σ) (by omega) (by omega)) (lk_RL_68 E.1.2.2.2.2 ⟨Nat.le_of_ble_eq_true rfl, Nat.le_of_ble_eq_true rfl⟩) (fpreS E hP hS) rfl rfl hl.1 rfl (lv_room (Nat.le_of_ble_eq_true rfl)) dL_law_303 ⟨(Nat.le_of_ble_eq_true rfl), (Nat.le_of_ble_eq_true rfl)⟩) hS (fun r_303 locs p_303 hS => ?_)
        obtain ⟨te, hte, rfl⟩ := p_303
        refine lv_istore (lv' := [(19, .int (nI te)), (18, .int (bI (suN kd a0 b0))), (17, .int (nI b0)), (16, .int (nI a0)), (15, .int (nI kd)), (14, .int (nI (5 * (nT σ)))), (0, .ref (sa g)), (1, .ref (fa g 0)), (2, .ref (fa g 239)), (3, .ref (fa g 240)), (4, .ref (fa g 241)), (5, .ref (fa g 242)), (6, .ref (fa g 243)), (7, .ref (fa g 244)), (8, .ref (fa g 245)), (9, .int (nI tn)), (10, .int x), (11, .int y), (12, .int (nI kc)), (13, .int (nI rI))]) hx hb dL_law_306 hl (by decide) rfl (fun ls hl => ?_)
        refine lv_aload_n hx hb dL_law_308 rfl (lv_at hl 7 rfl) ?_
        refine lv_iload hx hb dL_law_309 (lv_at hl 0 rfl) ?_
        refine lv_iload hx hb dL_law_311 (lv_at hl 4 rfl) ?_
        refine lv_iload hx hb dL_law_313 (lv_at hl 3 rfl) ?_
        refine lv_iload hx hb dL_law_315 (lv_at hl 2 rfl) ?_
        refine fs_i (va_runV (As := [.int (nI te), .int (nI kd), .int (nI a0), .int (nI b0)]) (rest := []) E.1 (c_X7_tell l g 246 ct σ k hs u1 s1 u2 s2 t len (by omega) hO (nI te) (nI kd) (nI a0) (nI b0)) (lk_RL_86 E.1.2.2.2.2 ⟨Nat.le_of_ble_eq_true rfl, Nat.le_of_ble_eq_true rfl⟩) (fpreV E hP hS fc7 h7 (by omega)) rfl rfl hl.1 rfl (lv_room (Nat.le_of_ble_eq_true rfl)) dL_law_317 ⟨(Nat.le_of_ble_eq_true rfl), (Nat.le_of_ble_eq_true rfl)⟩) hS (fun r_317 ct_1 H locs p_317 hP hS => ?_)
        rw [nI_cl (show te < 1000000 by omega), nI_cl (show kd < 1000000 by omega), nI_cl (show a0 < 1000000 by omega), nI_cl (show b0 < 1000000 by omega)] at p_317
        have h_2 : ct_1 239 = .inl (fcI g, 6, .inl fl) := ((p_317.2.2 239 (by omega))).trans h39
        have h_3 : ct_1 240 = .inl (fcI g, 6, .inl fsc) := ((p_317.2.2 240 (by omega))).trans h40
        have h_4 : ct_1 241 = .inl (fcI g, 6, .inl fgu) := ((p_317.2.2 241 (by omega))).trans h41
        have h_5 : ct_1 242 = .inl (fcI g, 60, .inl fr) := ((p_317.2.2 242 (by omega))).trans h42
        have h_6 : ct_1 243 = .inl (fcI g, 3, .inl fq) := ((p_317.2.2 243 (by omega))).trans h43
        have h_7 : ct_1 244 = .inl (fcI g, 6, .inl fw) := ((p_317.2.2 244 (by omega))).trans hcw
        have h_8 : ct_1 245 = .inl (fcI g, 51, .inl fc) := ((p_317.2.2 245 (by omega))).trans hcc
        have hsx := sux_su (n := nB σ) (kd := kd) (a := a0) (b := b0) hn6 hkd ha0 hb4 hb5
        have hte9 := hb_in hte hn6
        rcases Decidable.em (suN kd a0 b0) with hsu | hsu
        · have hcc : hbx σ (nI te) ∧ sux (nB σ) (nI kd) (nI a0) (nI b0) ∧ nT σ + 1 ≤ 20 := ⟨hte9, hsx.mpr hsu, by omega⟩
          have hO_9 := OGc_yes hcc p_317.2.1
          obtain ⟨f7_10, h7_11⟩ := OGAt.obj hO_9
          refine fs_vi (y := (nI (nT σ))) (p_317.1.trans (by rw [if_pos hcc.1, if_pos hcc.2.1, if_pos hcc.2.2])) ?_
          clear hcc hsx
          refine lv_iload hx hb dL_law_320 (lv_at hl 1 rfl) ?_
          refine lv_if_eq (tgt := 332) hx hb dL_law_322 (by decide) (fun c_322 => ?_) (fun c_322 => ?_)
          · have c_322 := (fb_0 (rfl : (bI (suN kd a0 b0)) = (bI (suN kd a0 b0)))).mp c_322
            exact absurd hsu c_322
          · have c_322 := (fb_1 (rfl : (bI (suN kd a0 b0)) = (bI (suN kd a0 b0)))).mp c_322
            refine lv_aload hx hb dL_law_325 (lv_at hl 12 rfl) ?_
            refine lv_iconst (v := (nI 1)) hx hb dL_law_327 (by decide) ?_
            refine fs_iald E hP (k := 243) h_6 (by omega) (vp_in_nI (by omega) (by omega)) dL_law_328 ?_
            refine fs_vi (y := fq 1) (congrArg fq (nI_clamp (by omega))) ?_
            refine fs_vi (y := (nI (nT σ))) hQ.2 ?_
            refine lv_goto (tgt := 334) hx hb dL_law_329 (by decide) ?_
            refine lv_icmp_eq (tgt := 339) hx hb dL_law_334 (by decide) (fun c_334 => ?_) (fun c_334 => ?_)
            rotate_left
            · exact absurd rfl c_334
            refine lv_iload hx hb dL_law_339 (lv_at hl 1 rfl) ?_
            refine lv_if_eq (tgt := 394) hx hb dL_law_341 (by decide) (fun c_341 => ?_) (fun c_341 => ?_)
            · have c_341 := (fb_0 (rfl : (bI (suN kd a0 b0)) = (bI (suN kd a0 b0)))).mp c_341
              exact absurd hsu c_341
            · have c_341 := (fb_1 (rfl : (bI (suN kd a0 b0)) = (bI (suN kd a0 b0)))).mp c_341
              refine lv_aload hx hb dL_law_344 (lv_at hl 11 rfl) ?_
              refine lv_iload hx hb dL_law_346 (lv_at hl 5 rfl) ?_
              refine lv_iload hx hb dL_law_348 (lv_at hl 0 rfl) ?_
              refine fs_iast E hP hS (k := 242) h_5 (by omega) (vp_in_nI (by omega) (by omega)) dL_law_350 (fun ct_12 H locs q_13 hP hS => ?_)
              rw [nI_clamp (by omega)] at q_13
              have h_14 : ct_12 239 = .inl (fcI g, 6, .inl fl) := by rw [q_13]; exact (fu_ne (by omega)).trans h_2
              have h_15 : ct_12 240 = .inl (fcI g, 6, .inl fsc) := by rw [q_13]; exact (fu_ne (by omega)).trans h_3
              have h_16 : ct_12 241 = .inl (fcI g, 6, .inl fgu) := by rw [q_13]; exact (fu_ne (by omega)).trans h_4
              have h_17 : ct_12 242 = .inl (fcI g, 60, .inl (upd fr (5 * (nT σ)) (nI te))) := by rw [q_13]; exact fu_eq _ _ _
              have h_18 : ct_12 243 = .inl (fcI g, 3, .inl fq) := by rw [q_13]; exact (fu_ne (by omega)).trans h_6
              have h_19 : ct_12 244 = .inl (fcI g, 6, .inl fw) := by rw [q_13]; exact (fu_ne (by omega)).trans h_7
              have h_20 : ct_12 245 = .inl (fcI g, 51, .inl fc) := by rw [q_13]; exact (fu_ne (by omega)).trans h_8
              have h_21 : ct_12 0 = .inr (7, f7_10) := by rw [q_13]; exact (fu_ne (by omega)).trans h7_11
              refine lv_aload hx hb dL_law_351 (lv_at hl 11 rfl) ?_
              refine lv_iload hx hb dL_law_353 (lv_at hl 5 rfl) ?_
              refine lv_iconst (v := (nI 1)) hx hb dL_law_355 (by decide) ?_
              refine lv_iadd hx hb dL_law_356 ?_
              refine fs_vi (y := nI (5 * (nT σ) + 1)) (nI_add _ _) ?_
              refine lv_iload hx hb dL_law_357 (lv_at hl 4 rfl) ?_
              refine fs_iast E hP hS (k := 242) h_17 (by omega) (vp_in_nI (by omega) (by omega)) dL_law_359 (fun ct_22 H locs q_23 hP hS => ?_)
              rw [nI_clamp (by omega)] at q_23
              have h_24 : ct_22 239 = .inl (fcI g, 6, .inl fl) := by rw [q_23]; exact (fu_ne (by omega)).trans h_14
              have h_25 : ct_22 240 = .inl (fcI g, 6, .inl fsc) := by rw [q_23]; exact (fu_ne (by omega)).trans h_15
              have h_26 : ct_22 241 = .inl (fcI g, 6, .inl fgu) := by rw [q_23]; exact (fu_ne (by omega)).trans h_16
              have h_27 : ct_22 242 = .inl (fcI g, 60, .inl (upd (upd fr (5 * (nT σ)) (nI te)) (5 * (nT σ) + 1) (nI kd))) := by rw [q_23]; exact fu_eq _ _ _
              have h_28 : ct_22 243 = .inl (fcI g, 3, .inl fq) := by rw [q_23]; exact (fu_ne (by omega)).trans h_18
              have h_29 : ct_22 244 = .inl (fcI g, 6, .inl fw) := by rw [q_23]; exact (fu_ne (by omega)).trans h_19
              have h_30 : ct_22 245 = .inl (fcI g, 51, .inl fc) := by rw [q_23]; exact (fu_ne (by omega)).trans h_20
              have h_31 : ct_22 0 = .inr (7, f7_10) := by rw [q_23]; exact (fu_ne (by omega)).trans h_21
              refine lv_aload hx hb dL_law_360 (lv_at hl 11 rfl) ?_
              refine lv_iload hx hb dL_law_362 (lv_at hl 5 rfl) ?_
              refine lv_iconst (v := (nI 2)) hx hb dL_law_364 (by decide) ?_
              refine lv_iadd hx hb dL_law_365 ?_
              refine fs_vi (y := nI (5 * (nT σ) + 2)) (nI_add _ _) ?_
              refine lv_iload hx hb dL_law_366 (lv_at hl 3 rfl) ?_
              refine fs_iast E hP hS (k := 242) h_27 (by omega) (vp_in_nI (by omega) (by omega)) dL_law_368 (fun ct_32 H locs q_33 hP hS => ?_)
              rw [nI_clamp (by omega)] at q_33
              have h_34 : ct_32 239 = .inl (fcI g, 6, .inl fl) := by rw [q_33]; exact (fu_ne (by omega)).trans h_24
              have h_35 : ct_32 240 = .inl (fcI g, 6, .inl fsc) := by rw [q_33]; exact (fu_ne (by omega)).trans h_25
              have h_36 : ct_32 241 = .inl (fcI g, 6, .inl fgu) := by rw [q_33]; exact (fu_ne (by omega)).trans h_26
              have h_37 : ct_32 242 = .inl (fcI g, 60, .inl (upd (upd (upd fr (5 * (nT σ)) (nI te)) (5 * (nT σ) + 1) (nI kd)) (5 * (nT σ) + 2) (nI a0))) := by rw [q_33]; exact fu_eq _ _ _
              have h_38 : ct_32 243 = .inl (fcI g, 3, .inl fq) := by rw [q_33]; exact (fu_ne (by omega)).trans h_28
              have h_39 : ct_32 244 = .inl (fcI g, 6, .inl fw) := by rw [q_33]; exact (fu_ne (by omega)).trans h_29
              have h_40 : ct_32 245 = .inl (fcI g, 51, .inl fc) := by rw [q_33]; exact (fu_ne (by omega)).trans h_30
              have h_41 : ct_32 0 = .inr (7, f7_10) := by rw [q_33]; exact (fu_ne (by omega)).trans h_31
              refine lv_aload hx hb dL_law_369 (lv_at hl 11 rfl) ?_
              refine lv_iload hx hb dL_law_371 (lv_at hl 5 rfl) ?_
              refine lv_iconst (v := (nI 3)) hx hb dL_law_373 (by decide) ?_
              refine lv_iadd hx hb dL_law_374 ?_
              refine fs_vi (y := nI (5 * (nT σ) + 3)) (nI_add _ _) ?_
              refine lv_iload hx hb dL_law_375 (lv_at hl 2 rfl) ?_
              refine fs_iast E hP hS (k := 242) h_37 (by omega) (vp_in_nI (by omega) (by omega)) dL_law_377 (fun ct_42 H locs q_43 hP hS => ?_)
              rw [nI_clamp (by omega)] at q_43
              have h_44 : ct_42 239 = .inl (fcI g, 6, .inl fl) := by rw [q_43]; exact (fu_ne (by omega)).trans h_34
              have h_45 : ct_42 240 = .inl (fcI g, 6, .inl fsc) := by rw [q_43]; exact (fu_ne (by omega)).trans h_35
              have h_46 : ct_42 241 = .inl (fcI g, 6, .inl fgu) := by rw [q_43]; exact (fu_ne (by omega)).trans h_36
              have h_47 : ct_42 242 = .inl (fcI g, 60, .inl (upd (upd (upd (upd fr (5 * (nT σ)) (nI te)) (5 * (nT σ) + 1) (nI kd)) (5 * (nT σ) + 2) (nI a0)) (5 * (nT σ) + 3) (nI b0))) := by rw [q_43]; exact fu_eq _ _ _
              have h_48 : ct_42 243 = .inl (fcI g, 3, .inl fq) := by rw [q_43]; exact (fu_ne (by omega)).trans h_38
              have h_49 : ct_42 244 = .inl (fcI g, 6, .inl fw) := by rw [q_43]; exact (fu_ne (by omega)).trans h_39
              have h_50 : ct_42 245 = .inl (fcI g, 51, .inl fc) := by rw [q_43]; exact (fu_ne (by omega)).trans h_40
              have h_51 : ct_42 0 = .inr (7, f7_10) := by rw [q_43]; exact (fu_ne (by omega)).trans h_41
              refine lv_aload hx hb dL_law_378 (lv_at hl 11 rfl) ?_
              refine lv_iload hx hb dL_law_380 (lv_at hl 5 rfl) ?_
              refine lv_iconst (v := (nI 4)) hx hb dL_law_382 (by decide) ?_
              refine lv_iadd hx hb dL_law_383 ?_
              refine fs_vi (y := nI (5 * (nT σ) + 4)) (nI_add _ _) ?_
              refine lv_iconst (v := (nI 0)) hx hb dL_law_384 (by decide) ?_
              refine fs_iast E hP hS (k := 242) h_47 (by omega) (vp_in_nI (by omega) (by omega)) dL_law_385 (fun ct_52 H locs q_53 hP hS => ?_)
              rw [nI_clamp (by omega)] at q_53
              have h_54 : ct_52 239 = .inl (fcI g, 6, .inl fl) := by rw [q_53]; exact (fu_ne (by omega)).trans h_44
              have h_55 : ct_52 240 = .inl (fcI g, 6, .inl fsc) := by rw [q_53]; exact (fu_ne (by omega)).trans h_45
              have h_56 : ct_52 241 = .inl (fcI g, 6, .inl fgu) := by rw [q_53]; exact (fu_ne (by omega)).trans h_46
              have h_57 : ct_52 242 = .inl (fcI g, 60, .inl (upd (upd (upd (upd (upd fr (5 * (nT σ)) (nI te)) (5 * (nT σ) + 1) (nI kd)) (5 * (nT σ) + 2) (nI a0)) (5 * (nT σ) + 3) (nI b0)) (5 * (nT σ) + 4) (nI 0))) := by rw [q_53]; exact fu_eq _ _ _
              have h_58 : ct_52 243 = .inl (fcI g, 3, .inl fq) := by rw [q_53]; exact (fu_ne (by omega)).trans h_48
              have h_59 : ct_52 244 = .inl (fcI g, 6, .inl fw) := by rw [q_53]; exact (fu_ne (by omega)).trans h_49
              have h_60 : ct_52 245 = .inl (fcI g, 51, .inl fc) := by rw [q_53]; exact (fu_ne (by omega)).trans h_50
              have h_61 : ct_52 0 = .inr (7, f7_10) := by rw [q_53]; exact (fu_ne (by omega)).trans h_51
              refine lv_aload hx hb dL_law_386 (lv_at hl 12 rfl) ?_
              refine lv_iconst (v := (nI 1)) hx hb dL_law_388 (by decide) ?_
              refine lv_dup2_11 hx hb dL_law_389 rfl rfl ?_
              refine fs_iald E hP (k := 243) h_58 (by omega) (vp_in_nI (by omega) (by omega)) dL_law_390 ?_
              refine fs_vi (y := fq 1) (congrArg fq (nI_clamp (by omega))) ?_
              refine fs_vi (y := (nI (nT σ))) hQ.2 ?_
              refine lv_iconst (v := (nI 1)) hx hb dL_law_391 (by decide) ?_
              refine lv_iadd hx hb dL_law_392 ?_
              refine fs_vi (y := (nI (nT σ + 1))) (nI_add _ _) ?_
              refine fs_iast E hP hS (k := 243) h_58 (by omega) (vp_in_nI (by omega) (by omega)) dL_law_393 (fun ct_62 H locs q_63 hP hS => ?_)
              rw [nI_clamp (by omega)] at q_63
              have h_64 : ct_62 239 = .inl (fcI g, 6, .inl fl) := by rw [q_63]; exact (fu_ne (by omega)).trans h_54
              have h_65 : ct_62 240 = .inl (fcI g, 6, .inl fsc) := by rw [q_63]; exact (fu_ne (by omega)).trans h_55
              have h_66 : ct_62 241 = .inl (fcI g, 6, .inl fgu) := by rw [q_63]; exact (fu_ne (by omega)).trans h_56
              have h_67 : ct_62 242 = .inl (fcI g, 60, .inl (upd (upd (upd (upd (upd fr (5 * (nT σ)) (nI te)) (5 * (nT σ) + 1) (nI kd)) (5 * (nT σ) + 2) (nI a0)) (5 * (nT σ) + 3) (nI b0)) (5 * (nT σ) + 4) (nI 0))) := by rw [q_63]; exact (fu_ne (by omega)).trans h_57
              have h_68 : ct_62 243 = .inl (fcI g, 3, .inl (upd fq 1 (nI (nT σ + 1)))) := by rw [q_63]; exact fu_eq _ _ _
              have h_69 : ct_62 244 = .inl (fcI g, 6, .inl fw) := by rw [q_63]; exact (fu_ne (by omega)).trans h_59
              have h_70 : ct_62 245 = .inl (fcI g, 51, .inl fc) := by rw [q_63]; exact (fu_ne (by omega)).trans h_60
              have h_71 : ct_62 0 = .inr (7, f7_10) := by rw [q_63]; exact (fu_ne (by omega)).trans h_61
              refine lv_goto (tgt := 1122) hx hb dL_law_394 (by decide) ?_
              have hO_72 := OGAt.keep (ct1 := ct_62) hO_9 (fun j (h1 : j < 239) => ((show ct_62 j = ct_52 j by rw [q_63]; exact fu_ne (by omega))).trans (((show ct_52 j = ct_42 j by rw [q_53]; exact fu_ne (by omega))).trans (((show ct_42 j = ct_32 j by rw [q_43]; exact fu_ne (by omega))).trans (((show ct_32 j = ct_22 j by rw [q_33]; exact fu_ne (by omega))).trans (((show ct_22 j = ct_12 j by rw [q_23]; exact fu_ne (by omega))).trans ((show ct_12 j = ct_1 j by rw [q_13]; exact fu_ne (by omega))))))))
              exact K _ _ _ _ ⟨_, _, _, _, _, _, _, _, _, _, _, _, _, _, _, _, hO_72, (by rw [nT_tell hG.k]; omega), ⟨h_64, h_65, h_66, h_67, h_68⟩, (RS_tell hG (by omega) (by omega) (by omega) (by omega) (by omega) hRS), h_69, h_70⟩ hP hS (lv_sub hl [6, 7, 8, 9, 10, 11, 12, 13, 14, 15, 17] rfl)
        · have hcc : ¬ (hbx σ (nI te) ∧ sux (nB σ) (nI kd) (nI a0) (nI b0) ∧ nT σ + 1 ≤ 20) := fun y => hsu (hsx.mp y.2.1)
          have hO_73 := OGc_no hcc p_317.2.1
          obtain ⟨f7_74, h7_75⟩ := OGAt.obj hO_73
          refine fs_vi (y := (-2)) (p_317.1.trans (by rw [if_pos hte9, if_neg (fun y => hsu (hsx.mp y))])) ?_
          clear hcc hsx
          refine lv_iload hx hb dL_law_320 (lv_at hl 1 rfl) ?_
          refine lv_if_eq (tgt := 332) hx hb dL_law_322 (by decide) (fun c_322 => ?_) (fun c_322 => ?_)
          · have c_322 := (fb_0 (rfl : (bI (suN kd a0 b0)) = (bI (suN kd a0 b0)))).mp c_322
            refine lv_bipush (v := (-2)) hx hb dL_law_332 (by decide) ?_
            refine lv_icmp_eq (tgt := 339) hx hb dL_law_334 (by decide) (fun c_334 => ?_) (fun c_334 => ?_)
            rotate_left
            · exact absurd c_334 (by decide)
            refine lv_iload hx hb dL_law_339 (lv_at hl 1 rfl) ?_
            refine lv_if_eq (tgt := 394) hx hb dL_law_341 (by decide) (fun c_341 => ?_) (fun c_341 => ?_)
            · have c_341 := (fb_0 (rfl : (bI (suN kd a0 b0)) = (bI (suN kd a0 b0)))).mp c_341
              refine lv_goto (tgt := 1122) hx hb dL_law_394 (by decide) ?_
              exact K _ _ _ _ ⟨_, _, _, _, _, _, _, _, _, _, _, _, _, _, _, _, hO_73, h12, ⟨h_2, h_3, h_4, h_5, h_6⟩, hRS, h_7, h_8⟩ hP hS (lv_sub hl [6, 7, 8, 9, 10, 11, 12, 13, 14, 15, 17] rfl)
            · have c_341 := (fb_1 (rfl : (bI (suN kd a0 b0)) = (bI (suN kd a0 b0)))).mp c_341
              exact absurd c_341 hsu
          · have c_322 := (fb_1 (rfl : (bI (suN kd a0 b0)) = (bI (suN kd a0 b0)))).mp c_322
            exact absurd c_322 hsu
      refine lv_iload hx hb dL_law_274 (lv_at hl 2 rfl) ?_
      refine lv_iconst (v := (nI 3)) hx hb dL_law_276 (by decide) ?_
      refine lv_icmp_gt (tgt := 287) hx hb dL_law_277 (by decide) (fun c_277 => ?_) (fun c_277 => ?_)
      · rw [nI_ltI (by omega) (by omega)] at c_277
        refine lv_iconst (v := (nI 1)) hx hb dL_law_287 (by decide) ?_
        refine lv_goto (tgt := 292) hx hb dL_law_288 (by decide) ?_
        refine fs_vi (y := (bI (suN kd a0 b0))) (bI_t (show 3 < kd ∨ a0 ≠ b0 by omega)) ?_
        exact K_292 _ hS
      · rw [nI_ltI (by omega) (by omega)] at c_277
        refine lv_iload hx hb dL_law_280 (lv_at hl 1 rfl) ?_
        refine lv_iload hx hb dL_law_282 (lv_at hl 0 rfl) ?_
        refine lv_icmp_eq (tgt := 291) hx hb dL_law_284 (by decide) (fun c_284 => ?_) (fun c_284 => ?_)
        · rw [nI_eq (by omega) (by omega)] at c_284
          refine lv_iconst (v := (nI 0)) hx hb dL_law_291 (by decide) ?_
          refine fs_vi (y := (bI (suN kd a0 b0))) (bI_f (fun y => by have y2 : 3 < kd ∨ a0 ≠ b0 := y; omega)) ?_
          exact K_292 _ hS
        · rw [nI_eq (by omega) (by omega)] at c_284
          refine lv_iconst (v := (nI 1)) hx hb dL_law_287 (by decide) ?_
          refine lv_goto (tgt := 292) hx hb dL_law_288 (by decide) ?_
          refine fs_vi (y := (bI (suN kd a0 b0))) (bI_t (show 3 < kd ∨ a0 ≠ b0 by omega)) ?_
          exact K_292 _ hS
    refine lv_iload hx hb dL_law_242 (lv_at hl 1 rfl) ?_
    refine lv_iconst (v := (nI 4)) hx hb dL_law_244 (by decide) ?_
    refine lv_icmp_ne (tgt := 260) hx hb dL_law_245 (by decide) (fun c_245 => ?_) (fun c_245 => ?_)
    · rw [nI_eq (by omega) (by omega)] at c_245
      refine lv_iload hx hb dL_law_260 (lv_at hl 14 rfl) ?_
      refine lv_bipush (v := (nI 6)) hx hb dL_law_262 (by decide) ?_
      refine lv_ishr hx hb dL_law_264 ?_
      refine lv_aload hx hb dL_law_265 (lv_at hl 9 rfl) ?_
      refine lv_iconst (v := (nI 0)) hx hb dL_law_267 (by decide) ?_
      refine fs_iald E hP (k := 243) h43 (by omega) (vp_in_nI (by omega) (by omega)) dL_law_268 ?_
      refine fs_vi (y := fq 0) (congrArg fq (nI_clamp (by omega))) ?_
      refine fs_vi (y := (nI (nB σ))) hQ.1 ?_
      refine fs_pi (va_runS (As := [.int (y >>> ((nI 6) &&& 31)), .int (nI (nB σ))]) (rest := []) E.1 (c_L_low l g 246 ct (y >>> ((nI 6) &&& 31)) (nB σ) (by omega) (by omega)) (lk_RL_68 E.1.2.2.2.2 ⟨Nat.le_of_ble_eq_true rfl, Nat.le_of_ble_eq_true rfl⟩) (fpreS E hP hS) rfl rfl hl.1 rfl (lv_room (Nat.le_of_ble_eq_true rfl)) dL_law_269 ⟨(Nat.le_of_ble_eq_true rfl), (Nat.le_of_ble_eq_true rfl)⟩) hS (fun r_269 locs p_269 hS => ?_)
      obtain ⟨b9, hb9, rfl⟩ := p_269
      exact K_272 b9 _ ⟨fun y9 => by omega, fun y9 => by omega⟩ hS
    · rw [nI_eq (by omega) (by omega)] at c_245
      refine lv_iload hx hb dL_law_248 (lv_at hl 14 rfl) ?_
      refine lv_bipush (v := (nI 6)) hx hb dL_law_250 (by decide) ?_
      refine lv_ishr hx hb dL_law_252 ?_
      refine lv_iconst (v := (nI 4)) hx hb dL_law_253 (by decide) ?_
      refine fs_pi (va_runS (As := [.int (y >>> ((nI 6) &&& 31)), .int (nI 4)]) (rest := []) E.1 (c_L_low l g 246 ct (y >>> ((nI 6) &&& 31)) 4 (by omega) (by omega)) (lk_RL_68 E.1.2.2.2.2 ⟨Nat.le_of_ble_eq_true rfl, Nat.le_of_ble_eq_true rfl⟩) (fpreS E hP hS) rfl rfl hl.1 rfl (lv_room (Nat.le_of_ble_eq_true rfl)) dL_law_254 ⟨(Nat.le_of_ble_eq_true rfl), (Nat.le_of_ble_eq_true rfl)⟩) hS (fun r_254 locs p_254 hS => ?_)
      obtain ⟨b9, hb9, rfl⟩ := p_254
      refine lv_goto (tgt := 272) hx hb dL_law_257 (by decide) ?_
      exact K_272 b9 _ ⟨fun y9 => by omega, fun y9 => by omega⟩ hS
  · rw [nI_eq (by omega) (by omega)] at c_206
    refine lv_goto (tgt := 1147) hx hb dL_law_209 (by decide) ?_
    exact K2 _ _ _ _ ⟨_, _, _, _, _, _, _, _, _, _, _, _, _, _, _, _, hO, h12, ⟨h39, h40, h41, h42, h43⟩, hRS, hcw, hcc⟩ hP hS (lv_sub hl [0, 1, 2, 3, 4, 5, 6, 7, 8, 9] rfl)
end LWC
