set_option maxRecDepth 100000 in
set_option maxHeartbeats 4000000 in
theorem c_X5_take (l : Launch) (g : fG) (N : Nat) (ct : Nat → va_E) (v h : Nat) (σ : Nat → Int32) (hNv : v + 7 ≤ N) (hN : h + 25 ≤ N) (hdis : v + 7 ≤ h ∨ h + 25 ≤ v) (hG : Good σ) (hH : HouseAt g ct h σ) (hV : SurvSh g ct v) : Met l yX5_take (wsU yX5_take cX5_take 4 none) rX5_take (fPre g N ct [.ref (fa g v), .ref (fa g h)]) (fQv g N (fun ct1 => SurvP g ct1 v σ (mM σ) ∧ WalkSh g ct1 v ∧ SupSh g ct1 v ∧ fSame v (v + 7) ct ct1)) 0 0 (fB g) := by
  refine fs_start (own := RX5) (lv0 := [(0, .ref (fa g v)), (1, .ref (fa g h))]) (by decide) rfl (Nat.le_of_ble_eq_true rfl) rfl ?_
  intro p e s m args below meth c ls E hr hlk hnm hP hl hS
  have hx := E.1.1
  have hb := E.1.2.1
  have hG20 := hG.k
  have hG3 := hG.n3
  have hG6 := hG.n6
  have hM := hG.M
  have hM1 := hM.1
  have hM2 := hM.2
  have hMe : mM σ = wM (nB σ) := rfl
  obtain ⟨⟨ws, mp, mw, hv0⟩, ⟨g3, hv3⟩, ⟨g4, hv4⟩, ⟨g5, hv5⟩, ⟨⟨b8, hw10⟩, ⟨f80, hw20⟩⟩, hSS⟩ := id hV
  refine lv_aload_n hx hb dX5_take_0 rfl (lv_at hl 0 rfl) ?_
  refine fs_v (va_runV (As := []) (rest := []) E.1 (c_X5_forget l g N ct v σ hNv hG hV) (lk_RX5_35 E.1.2.2.2.2 ⟨Nat.le_of_ble_eq_true rfl, Nat.le_of_ble_eq_true rfl⟩) (fpreV E hP hS fc5 hv0 (by omega)) rfl rfl hl.1 rfl (lv_room (Nat.le_of_ble_eq_true rfl)) dX5_take_1 ⟨Nat.zero_le _, Nat.zero_le _⟩) hS (fun ct_1 H locs p_1 hP hS => ?_)
  obtain ⟨hV0, e1f, e2f, e6f, hsf⟩ := p_1
  obtain ⟨⟨mp0, mw0, hv0f⟩, -⟩ := id hV0
  have hw1f := e1f.trans hw10
  have hw2f := e2f.trans hw20
  have hHf : HouseAt g ct_1 h σ := hH.keep (fun j8 h8 h9 => hsf j8 (by omega))
  obtain ⟨hc0f, -⟩ := id hHf
  refine lv_aload_n hx hb dX5_take_4 rfl (lv_at hl 0 rfl) ?_
  refine fs_get E hP (k := v) (v := .ref (fa g (v + 1))) 0 fc5 hv0f (by omega) (by decide) (wm wl_3 (i := 21) rfl) rfl dX5_take_5 ?_
  refine lv_aload_n hx hb dX5_take_8 rfl (lv_at hl 1 rfl) ?_
  refine fs_getN E hP (k := h) (v := .int (nI (nB σ))) 0 fc1 hc0f (by omega) (by decide) (j := 7) rfl rfl dX5_take_9 ?_
  refine fs_i (va_runV (As := [.int (nI (nB σ))]) (rest := []) E.1 (c_X6_begin l g N ct_1 (v + 1) (nB σ) b8 f80 (by omega) hG3 hG6 hw1f hw2f) (lk_RX5_44 E.1.2.2.2.2 ⟨Nat.le_of_ble_eq_true rfl, Nat.le_of_ble_eq_true rfl⟩) (fpreV E hP hS fc6 hw1f (by omega)) rfl rfl hl.1 rfl (lv_room (Nat.le_of_ble_eq_true rfl)) dX5_take_12 ⟨Nat.zero_le _, Nat.zero_le _⟩) hS (fun r_12 ct_2 H locs p_12 hP hS => ?_)
  obtain ⟨e12, hb1, ⟨f8, hb2, hb3⟩, hbs⟩ := p_12
  refine fs_vi (y := (nI (mM σ - 0))) (e12.trans rfl) ?_
  refine lv_istore_n (lv' := [(2, .int (nI (mM σ - 0))), (0, .ref (fa g v)), (1, .ref (fa g h))]) hx hb dX5_take_15 rfl hl (by decide) rfl (fun ls hl => ?_)
  refine fs_ind (g := g) (N := N) (St := Nat) (fun (q : Nat) (ct_3 : Nat → va_E) (ls : Array Slot) => lv_has ls 4 [(0, .ref (fa g v)), (1, .ref (fa g h)), (2, .int (nI (mM σ - q)))] ∧ SurvP g ct_3 v σ q ∧ WalkAt g ct_3 v (nB σ) q ∧ ct_3 (v + 6) = ct (v + 6) ∧ fSame v (v + 7) ct ct_3 ∧ q ≤ mM σ) (fun (q : Nat) => mM σ - q) ?_ 0 _ _ ls _ ⟨lv_sub hl [1, 2, 0] rfl, hV0.keep (hbs _ (by omega)) (hbs _ (by omega)) (hbs _ (by omega)) (hbs _ (by omega)), ⟨hb1, f8, hb2, fun _ => hb3⟩, (hbs _ (by omega)).trans e6f, (fSame.tr (fSame.tr fSame.rf hsf) (hbs.wide (by omega) (by omega))), Nat.zero_le _⟩ hP hS
  clear hl hP hS
  intro st ct_3 H ls locs hI hP hS ih
  obtain ⟨q, rfl⟩ : ∃ z, z = st := ⟨_, rfl⟩
  obtain ⟨hl, hI⟩ := hI
  obtain ⟨hVc, hWc, hS6, hsA, hqM⟩ := hI
  obtain ⟨⟨mp, mw, hv0⟩, ⟨g3, hv3, hg3⟩, ⟨g4, hv4, hg4⟩, ⟨g5, hv5, hg5⟩⟩ := id hVc
  have hHc : HouseAt g ct_3 h σ := hH.keep (fun j8 h8 h9 => hsA j8 (by omega))
  obtain ⟨hw1, fw, hw2, hRW0⟩ := id hWc
  have hwok := wd_ok hG3 q
  obtain ⟨hc0, -, -, -, ⟨f4, hc4, hf4⟩, hc5⟩ := id hHc
  skip
  refine lv_iload_n hx hb dX5_take_16 rfl (lv_at hl 2 rfl) ?_
  refine lv_if_le (tgt := 88) hx hb dX5_take_17 (by decide) (fun c_17 => ?_) (fun c_17 => ?_)
  · rw [fz_leN (by omega)] at c_17
    refine fs_vret E hr hlk hP hS dX5_take_88 ?_
    have eq9 : q = mM σ := by omega
    rw [eq9] at hVc
    obtain ⟨te8, kd8, a8, b9, st8, h68⟩ := hSS
    exact ⟨hVc, hWc.sh, ⟨te8, kd8, a8, b9, st8, hS6.trans h68⟩, hsA⟩
  · rw [fz_leN (by omega)] at c_17
    have hqlt : q < wM (nB σ) := by omega
    have hRW := hRW0 hqlt
    refine lv_aload_n hx hb dX5_take_20 rfl (lv_at hl 1 rfl) ?_
    refine lv_iconst (v := (nI 0)) hx hb dX5_take_21 (by decide) ?_
    refine lv_aload_n hx hb dX5_take_22 rfl (lv_at hl 0 rfl) ?_
    refine fs_get E hP (k := v) (v := .ref (fa g (v + 1))) 0 fc5 hv0 (by omega) (by decide) (wm wl_3 (i := 21) rfl) rfl dX5_take_23 ?_
    refine fs_getN E hP (k := (v + 1)) (v := .ref (fa g (v + 2))) 1 fc6 hw1 (by omega) (by decide) (j := 17) rfl rfl dX5_take_26 ?_
    refine fs_pi (va_runV (As := [.int (nI 0), .ref (fa g (v + 2))]) (rest := []) E.1 (c_X1_firstBroken l g N ct_3 h σ 0 (v + 2) fw (wd (nB σ) q) hN (by omega) hG hHc (Nat.zero_le _) hw2 hRW hwok) (lk_RX5_51 E.1.2.2.2.2 ⟨Nat.le_of_ble_eq_true rfl, Nat.le_of_ble_eq_true rfl⟩) (fpreV E hP hS fc1 hc0 (by omega)) rfl rfl hl.1 rfl (lv_room (Nat.le_of_ble_eq_true rfl)) dX5_take_29 ⟨Nat.zero_le _, Nat.zero_le _⟩) hS (fun r_29 locs p_29 hS => ?_)
    rcases p_29 with ⟨e29, hall29⟩ | ⟨i29, hlo29, hhi29, e29, hba29, hbb29⟩
    · refine fs_vi (y := (-6)) e29 ?_
      refine lv_istore_n (lv' := [(3, .int (-6)), (0, .ref (fa g v)), (1, .ref (fa g h)), (2, .int (nI (mM σ - q)))]) hx hb dX5_take_32 rfl hl (by decide) rfl (fun ls hl => ?_)
      refine lv_iload_n hx hb dX5_take_33 rfl (lv_at hl 0 rfl) ?_
      refine lv_bipush (v := (-6)) hx hb dX5_take_34 (by decide) ?_
      refine lv_icmp_ne (tgt := 47) hx hb dX5_take_36 (by decide) (fun c_36 => ?_) (fun c_36 => ?_)
      · exact absurd rfl c_36
      · refine lv_aload_n hx hb dX5_take_39 rfl (lv_at hl 1 rfl) ?_
        refine lv_aload_n hx hb dX5_take_40 rfl (lv_at hl 2 rfl) ?_
        refine fs_v (va_runV (As := [.ref (fa g h)]) (rest := []) E.1 (c_X5_tally l g N ct_3 v h q σ hNv hN hdis hG hHc hVc hWc hqlt (okq_t.mpr (fun r8 h8 => hall29 r8 (Nat.zero_le _) h8))) (lk_RX5_55 E.1.2.2.2.2 ⟨Nat.le_of_ble_eq_true rfl, Nat.le_of_ble_eq_true rfl⟩) (fpreV E hP hS fc5 hv0 (by omega)) rfl rfl hl.1 rfl (lv_room (Nat.le_of_ble_eq_true rfl)) dX5_take_41 ⟨Nat.zero_le _, Nat.zero_le _⟩) hS (fun ct_4 H locs p_41 hP hS => ?_)
        obtain ⟨hV2, e1x, e2x, e6x, hs2⟩ := p_41
        have hw1b := e1x.trans hw1
        have hw2b := e2x.trans hw2
        have hS6b := e6x.trans hS6
        obtain ⟨⟨mp2, mw2, hv0b⟩, -⟩ := id hV2
        refine lv_goto (tgt := 75) hx hb dX5_take_44 (by decide) ?_
        refine lv_aload_n hx hb dX5_take_75 rfl (lv_at hl 1 rfl) ?_
        refine fs_get E hP (k := v) (v := .ref (fa g (v + 1))) 0 fc5 hv0b (by omega) (by decide) (wm wl_3 (i := 21) rfl) rfl dX5_take_76 ?_
        refine fs_v (va_runV (As := []) (rest := []) E.1 (c_X6_step l g N ct_4 (v + 1) (nB σ) q fw (by omega) hG3 hG6 hqlt hw1b hw2b hRW) (lk_RX5_63 E.1.2.2.2.2 ⟨Nat.le_of_ble_eq_true rfl, Nat.le_of_ble_eq_true rfl⟩) (fpreV E hP hS fc6 hw1b (by omega)) rfl rfl hl.1 rfl (lv_room (Nat.le_of_ble_eq_true rfl)) dX5_take_79 ⟨Nat.zero_le _, Nat.zero_le _⟩) hS (fun ct_5 H locs p_79 hP hS => ?_)
        obtain ⟨f9, q79, hR79⟩ := p_79
        refine lv_iinc (v := (nI (mM σ - (q + 1)))) (lv' := [(2, .int (nI (mM σ - (q + 1)))), (3, .int (-6)), (0, .ref (fa g v)), (1, .ref (fa g h))]) hx hb dX5_take_82 hl (k := 3) rfl (by rw [show mM σ - q = (mM σ - (q + 1)) + 1 by omega]; exact pk_m1 _) (by decide) rfl (fun ls hl => ?_)
        refine lv_goto (tgt := 16) hx hb dX5_take_85 (by decide) ?_
        exact ih (q + 1) _ _ ls _ (by (try dsimp only); omega) ⟨lv_sub hl [2, 3, 0] rfl, hV2.keep (by rw [q79]; exact fu_ne (by omega)) (by rw [q79]; exact fu_ne (by omega)) (by rw [q79]; exact fu_ne (by omega)) (by rw [q79]; exact fu_ne (by omega)), ⟨by rw [q79]; exact (fu_ne (by omega)).trans hw1b, f9, by rw [q79]; exact fu_eq _ _ _, hR79⟩, by rw [q79]; exact (fu_ne (by omega)).trans hS6b, (fSame.ap (fSame.tr (fSame.tr fSame.rf hsA) hs2) q79 (by omega) (by omega)), by omega⟩ hP hS
    · refine fs_vi (y := (nI i29)) e29 ?_
      refine lv_istore_n (lv' := [(3, .int (nI i29)), (0, .ref (fa g v)), (1, .ref (fa g h)), (2, .int (nI (mM σ - q)))]) hx hb dX5_take_32 rfl hl (by decide) rfl (fun ls hl => ?_)
      refine lv_iload_n hx hb dX5_take_33 rfl (lv_at hl 0 rfl) ?_
      refine lv_bipush (v := (-6)) hx hb dX5_take_34 (by decide) ?_
      refine lv_icmp_ne (tgt := 47) hx hb dX5_take_36 (by decide) (fun c_36 => ?_) (fun c_36 => ?_)
      · refine lv_aload_n hx hb dX5_take_47 rfl (lv_at hl 2 rfl) ?_
        refine lv_iload_n hx hb dX5_take_48 rfl (lv_at hl 0 rfl) ?_
        refine lv_iconst (v := (nI 1)) hx hb dX5_take_49 (by decide) ?_
        refine lv_iadd hx hb dX5_take_50 ?_
        refine fs_vi (y := (nI (i29 + 1))) (nI_1 _) ?_
        refine lv_aload_n hx hb dX5_take_51 rfl (lv_at hl 1 rfl) ?_
        refine fs_get E hP (k := v) (v := .ref (fa g (v + 1))) 0 fc5 hv0 (by omega) (by decide) (wm wl_3 (i := 21) rfl) rfl dX5_take_52 ?_
        refine fs_getN E hP (k := (v + 1)) (v := .ref (fa g (v + 2))) 1 fc6 hw1 (by omega) (by decide) (j := 17) rfl rfl dX5_take_55 ?_
        refine fs_pi (va_runV (As := [.int (nI (i29 + 1)), .ref (fa g (v + 2))]) (rest := []) E.1 (c_X1_firstBroken l g N ct_3 h σ (i29 + 1) (v + 2) fw (wd (nB σ) q) hN (by omega) hG hHc (by omega) hw2 hRW hwok) (lk_RX5_51 E.1.2.2.2.2 ⟨Nat.le_of_ble_eq_true rfl, Nat.le_of_ble_eq_true rfl⟩) (fpreV E hP hS fc1 hc0 (by omega)) rfl rfl hl.1 rfl (lv_room (Nat.le_of_ble_eq_true rfl)) dX5_take_58 ⟨Nat.zero_le _, Nat.zero_le _⟩) hS (fun r_58 locs p_58 hS => ?_)
        rcases p_58 with ⟨e58, hall58⟩ | ⟨i58, hlo58, hhi58, e58, hba58, hbb58⟩
        · refine fs_vi (y := (-6)) e58 ?_
          refine lv_bipush (v := (-6)) hx hb dX5_take_61 (by decide) ?_
          refine lv_icmp_ne (tgt := 75) hx hb dX5_take_63 (by decide) (fun c_63 => ?_) (fun c_63 => ?_)
          · exact absurd rfl c_63
          · refine lv_aload_n hx hb dX5_take_66 rfl (lv_at hl 1 rfl) ?_
            refine fs_get E hP (k := v) (v := .ref (fa g (v + 5))) 6 fc5 hv0 (by omega) (by decide) (wm wl_4 (i := 0) rfl) rfl dX5_take_67 ?_
            refine lv_iload_n hx hb dX5_take_70 rfl (lv_at hl 0 rfl) ?_
            refine lv_iconst (v := (nI 1)) hx hb dX5_take_71 (by decide) ?_
            refine fs_v (va_runSN (As := [.ref (fa g (v + 5)), .int (nI i29), .int (nI 1)]) (rest := []) E.1 (c_X7_addAt l g N ct_3 (v + 5) 20 g5 (nI i29) (nI 1) (by omega) (by omega) hv5) (lk_RX5_59 E.1.2.2.2.2 (E.2.1.2.1 _ (List.mem_of_getElem? (i := 35) rfl)) ⟨Nat.le_of_ble_eq_true rfl, Nat.le_of_ble_eq_true rfl⟩) (fpreS E hP hS) rfl rfl hl.1 rfl (lv_room (Nat.le_of_ble_eq_true rfl)) dX5_take_72 ⟨Nat.zero_le _, Nat.zero_le _⟩) hS (fun ct_6 H locs p_72 hP hS => ?_)
            rw [stF_in (by omega) (by omega), nI_clamp (by omega)] at p_72
            have h_7 : ct_6 h = .inr (1, [.int (nI (nB σ)), .int (σ 2), .int (nI (nT σ)), .ref (fa g (h + 1)), .ref (fa g (h + 2)), .ref (fa g (h + 3)), .ref (fa g (h + 4))]) := by rw [p_72]; exact (fu_ne (by omega)).trans hc0
            have h_8 : ct_6 (h + 4) = .inl (fcR g, 20, .inr (.inr (.inr (.inr f4)))) := by rw [p_72]; exact (fu_ne (by omega)).trans hc4
            have h_9 : ct_6 (v + 1) = .inr (6, [.int (nI (nB σ)), .ref (fa g (v + 2))]) := by rw [p_72]; exact (fu_ne (by omega)).trans hw1
            have h_10 : ct_6 (v + 2) = .inl (fcI g, 6, .inl fw) := by rw [p_72]; exact (fu_ne (by omega)).trans hw2
            have h_11 : ct_6 v = .inr (5, [.ref (fa g (v + 1)), .int (nI (cN (okq σ) q)), .int mp, .int mw, .ref (fa g (v + 3)), .ref (fa g (v + 4)), .ref (fa g (v + 5)), .ref (fa g (v + 6))]) := by rw [p_72]; exact (fu_ne (by omega)).trans hv0
            have h_12 : ct_6 (v + 5) = .inl (fcI g, 20, .inl (upd g5 i29 (g5 i29 + nI 1))) := by rw [p_72]; exact fu_eq _ _ _
            have hon : onq σ i29 q = true := onq_t.mpr ⟨hhi29, hba29, fun r2 h2 h3 => (Nat.lt_or_ge r2 i29).elim (fun q9 => hbb29 r2 (Nat.zero_le _) q9) (fun q9 => hall58 r2 (by omega) h2)⟩
            have hnon : ∀ r2, r2 ≠ i29 → onq σ r2 q = false := fun r2 h2 => Bool.eq_false_iff.mpr (fun h3 => by have h4 := (onq_t.mp h3).2.2 i29 hhi29 (fun z => h2 z.symm); rw [hba29] at h4; exact absurd h4 (by decide))
            have hnk := okq_f hhi29 hba29
            have hV2 : SurvP g ct_6 v σ (q + 1) := ⟨⟨mp, mw, by rw [cN_f hnk]; exact h_11⟩, ⟨g3, by rw [p_72]; exact (fu_ne (by omega)).trans hv3, fun p b hp hb => by rw [hg3 p b hp hb, cN_f (by unfold lkq; rw [hnk]; rfl)]⟩, ⟨g4, by rw [p_72]; exact (fu_ne (by omega)).trans hv4, fun r hr => by rw [hg4 r hr, cN_f (by unfold hdq; rw [hnk]; rfl)]⟩, ⟨_, h_12, fun r hr => by
                by_cases z : r = i29
                · subst z; rw [upd_eq, hg5 r hr, cN_t hon]; exact nI_1 _
                · rw [upd_ne z, hg5 r hr, cN_f (hnon r z)]⟩⟩
            have hS6b : ct_6 (v + 6) = ct (v + 6) := (by rw [p_72]; exact fu_ne (by omega) : ct_6 (v + 6) = _).trans hS6
            refine lv_aload_n hx hb dX5_take_75 rfl (lv_at hl 1 rfl) ?_
            refine fs_get E hP (k := v) (v := .ref (fa g (v + 1))) 0 fc5 h_11 (by omega) (by decide) (wm wl_3 (i := 21) rfl) rfl dX5_take_76 ?_
            refine fs_v (va_runV (As := []) (rest := []) E.1 (c_X6_step l g N ct_6 (v + 1) (nB σ) q fw (by omega) hG3 hG6 hqlt h_9 h_10 hRW) (lk_RX5_63 E.1.2.2.2.2 ⟨Nat.le_of_ble_eq_true rfl, Nat.le_of_ble_eq_true rfl⟩) (fpreV E hP hS fc6 h_9 (by omega)) rfl rfl hl.1 rfl (lv_room (Nat.le_of_ble_eq_true rfl)) dX5_take_79 ⟨Nat.zero_le _, Nat.zero_le _⟩) hS (fun ct_13 H locs p_79 hP hS => ?_)
            obtain ⟨f9, q79, hR79⟩ := p_79
            refine lv_iinc (v := (nI (mM σ - (q + 1)))) (lv' := [(2, .int (nI (mM σ - (q + 1)))), (3, .int (nI i29)), (0, .ref (fa g v)), (1, .ref (fa g h))]) hx hb dX5_take_82 hl (k := 3) rfl (by rw [show mM σ - q = (mM σ - (q + 1)) + 1 by omega]; exact pk_m1 _) (by decide) rfl (fun ls hl => ?_)
            refine lv_goto (tgt := 16) hx hb dX5_take_85 (by decide) ?_
            exact ih (q + 1) _ _ ls _ (by (try dsimp only); omega) ⟨lv_sub hl [2, 3, 0] rfl, hV2.keep (by rw [q79]; exact fu_ne (by omega)) (by rw [q79]; exact fu_ne (by omega)) (by rw [q79]; exact fu_ne (by omega)) (by rw [q79]; exact fu_ne (by omega)), ⟨by rw [q79]; exact (fu_ne (by omega)).trans h_9, f9, by rw [q79]; exact fu_eq _ _ _, hR79⟩, by rw [q79]; exact (fu_ne (by omega)).trans hS6b, (fSame.ap (fSame.ap (fSame.tr fSame.rf hsA) p_72 (by omega) (by omega)) q79 (by omega) (by omega)), by omega⟩ hP hS
        · refine fs_vi (y := (nI i58)) e58 ?_
          refine lv_bipush (v := (-6)) hx hb dX5_take_61 (by decide) ?_
          refine lv_icmp_ne (tgt := 75) hx hb dX5_take_63 (by decide) (fun c_63 => ?_) (fun c_63 => ?_)
          · have hnk := okq_f hhi29 hba29
            have hnon : ∀ r2, onq σ r2 q = false := fun r2 => Bool.eq_false_iff.mpr (fun h3 => by
              obtain ⟨h4, h5, h6⟩ := onq_t.mp h3
              rcases Decidable.em (r2 = i29) with z | z
              · subst z
                have h7 := h6 i58 hhi58 (by omega)
                rw [hba58] at h7; exact absurd h7 (by decide)
              · have h7 := h6 i29 hhi29 (fun y => z y.symm)
                rw [hba29] at h7; exact absurd h7 (by decide))
            have hV2 : SurvP g ct_3 v σ (q + 1) := ⟨⟨mp, mw, by rw [cN_f hnk]; exact hv0⟩, ⟨g3, hv3, fun p b hp hb => by rw [hg3 p b hp hb, cN_f (by unfold lkq; rw [hnk]; rfl)]⟩, ⟨g4, hv4, fun r hr => by rw [hg4 r hr, cN_f (by unfold hdq; rw [hnk]; rfl)]⟩, ⟨g5, hv5, fun r hr => by rw [hg5 r hr, cN_f (hnon r)]⟩⟩
            have hS6b := hS6
            refine lv_aload_n hx hb dX5_take_75 rfl (lv_at hl 1 rfl) ?_
            refine fs_get E hP (k := v) (v := .ref (fa g (v + 1))) 0 fc5 hv0 (by omega) (by decide) (wm wl_3 (i := 21) rfl) rfl dX5_take_76 ?_
            refine fs_v (va_runV (As := []) (rest := []) E.1 (c_X6_step l g N ct_3 (v + 1) (nB σ) q fw (by omega) hG3 hG6 hqlt hw1 hw2 hRW) (lk_RX5_63 E.1.2.2.2.2 ⟨Nat.le_of_ble_eq_true rfl, Nat.le_of_ble_eq_true rfl⟩) (fpreV E hP hS fc6 hw1 (by omega)) rfl rfl hl.1 rfl (lv_room (Nat.le_of_ble_eq_true rfl)) dX5_take_79 ⟨Nat.zero_le _, Nat.zero_le _⟩) hS (fun ct_14 H locs p_79 hP hS => ?_)
            obtain ⟨f9, q79, hR79⟩ := p_79
            refine lv_iinc (v := (nI (mM σ - (q + 1)))) (lv' := [(2, .int (nI (mM σ - (q + 1)))), (3, .int (nI i29)), (0, .ref (fa g v)), (1, .ref (fa g h))]) hx hb dX5_take_82 hl (k := 3) rfl (by rw [show mM σ - q = (mM σ - (q + 1)) + 1 by omega]; exact pk_m1 _) (by decide) rfl (fun ls hl => ?_)
            refine lv_goto (tgt := 16) hx hb dX5_take_85 (by decide) ?_
            exact ih (q + 1) _ _ ls _ (by (try dsimp only); omega) ⟨lv_sub hl [2, 3, 0] rfl, hV2.keep (by rw [q79]; exact fu_ne (by omega)) (by rw [q79]; exact fu_ne (by omega)) (by rw [q79]; exact fu_ne (by omega)) (by rw [q79]; exact fu_ne (by omega)), ⟨by rw [q79]; exact (fu_ne (by omega)).trans hw1, f9, by rw [q79]; exact fu_eq _ _ _, hR79⟩, by rw [q79]; exact (fu_ne (by omega)).trans hS6b, (fSame.ap (fSame.tr fSame.rf hsA) q79 (by omega) (by omega)), by omega⟩ hP hS
          · exact absurd c_63 (nI_ne6 (by omega))
      · exact absurd c_36 (nI_ne6 (by omega))
