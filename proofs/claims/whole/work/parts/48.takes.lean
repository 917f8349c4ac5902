set_option maxRecDepth 100000 in
set_option maxHeartbeats 4000000 in
theorem c_X8_takesIn (l : Launch) (g : fG) (N : Nat) (ct : Nat → va_E) (z : Nat → Int32) (F : Nat → Nat → Int32) (σ : Nat → Int32) (hN : 249 ≤ N) (hG : Good σ) (hM : MA g ct z F) (hT : SR σ F) (q : Nat) (hq : q < 1000000) (hok : okq σ q = true) (hC : CNT σ q z F) (hW : WR σ (wd (nB σ) q) F) : Met l yX8_takesIn (wsU yX8_takesIn cX8_takesIn 3 none) rX8_takesIn (fPre g N ct [.ref (fa g 239)]) (fQv g N (fun ct1 => ∃ (z1 : Nat → Int32) (F1 : Nat → Nat → Int32), MA g ct1 z1 F1 ∧ KK z F z1 F1 ∧ CNT σ (q + 1) z1 F1 ∧ fSame 239 249 ct ct1)) 0 0 (fB g) := by
  refine fs_start (own := RX8) (lv0 := [(0, .ref (fa g 239))]) (by decide) rfl (Nat.le_of_ble_eq_true rfl) rfl ?_
  intro p e s m args below meth c ls E hr hlk hnm hP hl hS
  have hx := E.1.1
  have hb := E.1.2.1
  have m_1o : ct 239 = .inr (8, [.ref (fa g 240), .ref (fa g 241), .int (z 0), .ref (fa g 242), .ref (fa g 243), .ref (fa g 244), .int (z 1), .ref (fa g 245), .int (z 2), .ref (fa g 246), .ref (fa g 247), .ref (fa g 248), .int (z 3), .int (z 4), .int (z 5), .int (z 6), .int (z 7), .int (z 8), .int (z 9)]) := (hM).1
  have m_1r0 : ct 240 = .inl (fcI g, 121, .inl (F 0)) := (hM).2.1
  have m_1r1 : ct 241 = .inl (fcI g, 726, .inl (F 1)) := (hM).2.2.1
  have m_1r2 : ct 242 = .inl (fcI g, 242, .inl (F 2)) := (hM).2.2.2.1
  have m_1r3 : ct 243 = .inl (fcI g, 2, .inl (F 3)) := (hM).2.2.2.2.1
  have m_1r4 : ct 244 = .inl (fcI g, 60, .inl (F 4)) := (hM).2.2.2.2.2.1
  have m_1r5 : ct 245 = .inl (fcI g, 6, .inl (F 5)) := (hM).2.2.2.2.2.2.1
  have m_1r6 : ct 246 = .inl (fcI g, 36, .inl (F 6)) := (hM).2.2.2.2.2.2.2.1
  have m_1r7 : ct 247 = .inl (fcI g, 20, .inl (F 7)) := (hM).2.2.2.2.2.2.2.2.1
  have m_1r8 : ct 248 = .inl (fcI g, 20, .inl (F 8)) := (hM).2.2.2.2.2.2.2.2.2
  have hn3 := hG.n3
  have hn6 := hG.n6
  have hk20 := hG.k
  refine lv_aload_n hx hb dX8_takesIn_0 rfl (lv_at hl 0 rfl) ?_
  refine lv_dup hx hb dX8_takesIn_1 rfl ?_
  refine fs_get E hP (k := 239) (v := .int (z 2)) 8 fc8 m_1o (by omega) (by decide) (wm wl_21 (i := 7) rfl) rfl dX8_takesIn_2 ?_
  refine lv_iconst (v := (nI 1)) hx hb dX8_takesIn_5 (by decide) ?_
  refine lv_iadd hx hb dX8_takesIn_6 ?_
  refine fs_vi (y := (nI (cN (okq σ) (q + 1)))) (by rw [hC.1, cN_t hok]; exact nI_1 _) ?_
  refine fs_put E hP hS (k := 239) 8 fc8 m_1o (by omega) (by decide) (wm wl_21 (i := 7) rfl) rfl rfl rfl rfl (Nat.le_of_ble_eq_true rfl) dX8_takesIn_7 (fun ct_2 H locs q_3 hP hS => ?_)
  have h_4 : ct_2 239 = .inr (8, [.ref (fa g 240), .ref (fa g 241), .int (z 0), .ref (fa g 242), .ref (fa g 243), .ref (fa g 244), .int (z 1), .ref (fa g 245), .int (nI (cN (okq σ) (q + 1))), .ref (fa g 246), .ref (fa g 247), .ref (fa g 248), .int (z 3), .int (z 4), .int (z 5), .int (z 6), .int (z 7), .int (z 8), .int (z 9)]) := by rw [q_3]; exact fu_eq _ _ _
  have h_5 : ct_2 240 = .inl (fcI g, 121, .inl (F 0)) := by rw [q_3]; exact (fu_ne (by omega)).trans m_1r0
  have h_6 : ct_2 241 = .inl (fcI g, 726, .inl (F 1)) := by rw [q_3]; exact (fu_ne (by omega)).trans m_1r1
  have h_7 : ct_2 242 = .inl (fcI g, 242, .inl (F 2)) := by rw [q_3]; exact (fu_ne (by omega)).trans m_1r2
  have h_8 : ct_2 243 = .inl (fcI g, 2, .inl (F 3)) := by rw [q_3]; exact (fu_ne (by omega)).trans m_1r3
  have h_9 : ct_2 244 = .inl (fcI g, 60, .inl (F 4)) := by rw [q_3]; exact (fu_ne (by omega)).trans m_1r4
  have h_10 : ct_2 245 = .inl (fcI g, 6, .inl (F 5)) := by rw [q_3]; exact (fu_ne (by omega)).trans m_1r5
  have h_11 : ct_2 246 = .inl (fcI g, 36, .inl (F 6)) := by rw [q_3]; exact (fu_ne (by omega)).trans m_1r6
  have h_12 : ct_2 247 = .inl (fcI g, 20, .inl (F 7)) := by rw [q_3]; exact (fu_ne (by omega)).trans m_1r7
  have h_13 : ct_2 248 = .inl (fcI g, 20, .inl (F 8)) := by rw [q_3]; exact (fu_ne (by omega)).trans m_1r8
  refine lv_iconst (v := (nI 0)) hx hb dX8_takesIn_10 (by decide) ?_
  refine lv_istore_n (lv' := [(1, .int (nI 0)), (0, .ref (fa g 239))]) hx hb dX8_takesIn_11 rfl hl (by decide) rfl (fun ls hl => ?_)
  have MA_14 : MA g ct_2 (mkz (z 0) (z 1) (nI (cN (okq σ) (q + 1))) (z 3) (z 4) (z 5) (z 6) (z 7) (z 8) (z 9)) (mkF (F 0) (F 1) (F 2) (F 3) (F 4) (F 5) (F 6) (F 7) (F 8)) := ⟨h_4, h_5, h_6, h_7, h_8, h_9, h_10, h_11, h_12, h_13⟩
  refine fs_ind (g := g) (N := N) (St := Nat) (fun (i : Nat) (ct_15 : Nat → va_E) (ls : Array Slot) => lv_has ls 3 [(0, .ref (fa g 239)), (1, .int (nI i))] ∧ ∃ (z1 : Nat → Int32) (F1 : Nat → Nat → Int32), MA g ct_15 z1 F1 ∧ (i ≤ nB σ ∧ KK z F z1 F1 ∧ F1 5 = F 5 ∧ z1 2 = nI (cN (okq σ) (q + 1)) ∧ F1 7 = F 7 ∧ F1 8 = F 8 ∧ (∀ p b, p < nB σ → b < 6 → F1 6 (6 * p + b) = nI (cN (lkq σ p b) (if p < i then q + 1 else q))) ∧ MW (mwP (nB σ) (wd (nB σ) q) (mwQ σ q) i) (z1 3) (z1 4)) ∧ fSame 239 249 ct ct_15) (fun i => nB σ - i) ?_ 0 _ _ ls _ ⟨lv_sub hl [1, 0] rfl, ⟨(mkz (z 0) (z 1) (nI (cN (okq σ) (q + 1))) (z 3) (z 4) (z 5) (z 6) (z 7) (z 8) (z 9)), (mkF (F 0) (F 1) (F 2) (F 3) (F 4) (F 5) (F 6) (F 7) (F 8)), MA_14, ⟨Nat.zero_le _, ⟨⟨rfl, rfl⟩, rfl, rfl, rfl, rfl, rfl⟩, rfl, rfl, rfl, rfl, fun p b hp hb => (by rw [if_neg (by omega)]; exact hC.2.1 p b hp hb), hC.2.2.2.2⟩, (show fSame 239 249 _ _ from (fSame.ap fSame.rf q_3 (by omega) (by omega)))⟩⟩ hP hS
  clear hl hP hS
  intro st ct_15 H ls locs hI hP hS ih
  obtain ⟨i, rfl⟩ : ∃ z, z = st := ⟨_, rfl⟩
  obtain ⟨hl, z1, F1, hM1, hI, hsm⟩ := hI
  have m_16o : ct_15 239 = .inr (8, [.ref (fa g 240), .ref (fa g 241), .int (z1 0), .ref (fa g 242), .ref (fa g 243), .ref (fa g 244), .int (z1 1), .ref (fa g 245), .int (z1 2), .ref (fa g 246), .ref (fa g 247), .ref (fa g 248), .int (z1 3), .int (z1 4), .int (z1 5), .int (z1 6), .int (z1 7), .int (z1 8), .int (z1 9)]) := (hM1).1
  have m_16r0 : ct_15 240 = .inl (fcI g, 121, .inl (F1 0)) := (hM1).2.1
  have m_16r1 : ct_15 241 = .inl (fcI g, 726, .inl (F1 1)) := (hM1).2.2.1
  have m_16r2 : ct_15 242 = .inl (fcI g, 242, .inl (F1 2)) := (hM1).2.2.2.1
  have m_16r3 : ct_15 243 = .inl (fcI g, 2, .inl (F1 3)) := (hM1).2.2.2.2.1
  have m_16r4 : ct_15 244 = .inl (fcI g, 60, .inl (F1 4)) := (hM1).2.2.2.2.2.1
  have m_16r5 : ct_15 245 = .inl (fcI g, 6, .inl (F1 5)) := (hM1).2.2.2.2.2.2.1
  have m_16r6 : ct_15 246 = .inl (fcI g, 36, .inl (F1 6)) := (hM1).2.2.2.2.2.2.2.1
  have m_16r7 : ct_15 247 = .inl (fcI g, 20, .inl (F1 7)) := (hM1).2.2.2.2.2.2.2.2.1
  have m_16r8 : ct_15 248 = .inl (fcI g, 20, .inl (F1 8)) := (hM1).2.2.2.2.2.2.2.2.2
  have hTl := KK.sr hI.2.1 hT
  have hWl : WR σ (wd (nB σ) q) F1 := fun p hp => by rw [hI.2.2.1]; exact hW p hp
  have hI1 := hI.1
  refine lv_iload_n hx hb dX8_takesIn_12 rfl (lv_at hl 1 rfl) ?_
  refine lv_aload_n hx hb dX8_takesIn_13 rfl (lv_at hl 0 rfl) ?_
  refine fs_get E hP (k := 239) (v := .ref (fa g 240)) 0 fc8 m_16o (by omega) (by decide) (wm wl_5 (i := 0) rfl) rfl dX8_takesIn_14 ?_
  refine lv_iconst (v := (nI 0)) hx hb dX8_takesIn_17 (by decide) ?_
  refine fs_iald E hP (k := 240) m_16r0 (by omega) (vp_in_nI (by omega) (by omega)) dX8_takesIn_18 ?_
  refine fs_vi (y := (F1 0) 0) (congrArg (F1 0) (nI_clamp (by omega))) ?_
  refine fs_vi (y := (nI (nB σ))) (hTl.n hG) ?_
  refine lv_icmp_ge (tgt := 88) hx hb dX8_takesIn_19 (by decide) (fun c_19 => ?_) (fun c_19 => ?_)
  · rw [nI_leI (by omega) (by omega)] at c_19
    have hin : i = nB σ := by omega
    have hJ := hI
    rw [hin] at hJ
    clear ih hI hTl hWl hI1
    refine lv_iconst (v := (nI 0)) hx hb dX8_takesIn_88 (by decide) ?_
    refine lv_istore_n (lv' := [(1, .int (nI 0)), (0, .ref (fa g 239))]) hx hb dX8_takesIn_89 rfl hl (by decide) rfl (fun ls hl => ?_)
    have MA_17 : MA g ct_15 (mkz (z1 0) (z1 1) (z1 2) (z1 3) (z1 4) (z1 5) (z1 6) (z1 7) (z1 8) (z1 9)) (mkF (F1 0) (F1 1) (F1 2) (F1 3) (F1 4) (F1 5) (F1 6) (F1 7) (F1 8)) := ⟨m_16o, m_16r0, m_16r1, m_16r2, m_16r3, m_16r4, m_16r5, m_16r6, m_16r7, m_16r8⟩
    refine fs_ind (g := g) (N := N) (St := Nat) (fun (r0 : Nat) (ct_18 : Nat → va_E) (ls : Array Slot) => lv_has ls 3 [(0, .ref (fa g 239)), (1, .int (nI r0))] ∧ ∃ (z1 : Nat → Int32) (F1 : Nat → Nat → Int32), MA g ct_18 z1 F1 ∧ (r0 ≤ nT σ ∧ KK z F z1 F1 ∧ F1 5 = F 5 ∧ z1 2 = nI (cN (okq σ) (q + 1)) ∧ F1 8 = F 8 ∧ (∀ p b, p < nB σ → b < 6 → F1 6 (6 * p + b) = nI (cN (lkq σ p b) (q + 1))) ∧ MW (mwP (nB σ) (wd (nB σ) q) (mwQ σ q) (nB σ)) (z1 3) (z1 4) ∧ ∀ r9, r9 < nT σ → F1 7 r9 = nI (cN (hdq σ r9) (if r9 < r0 then q + 1 else q))) ∧ fSame 239 249 ct ct_18) (fun r0 => nT σ - r0) ?_ 0 _ _ ls _ ⟨lv_sub hl [1, 0] rfl, ⟨(mkz (z1 0) (z1 1) (z1 2) (z1 3) (z1 4) (z1 5) (z1 6) (z1 7) (z1 8) (z1 9)), (mkF (F1 0) (F1 1) (F1 2) (F1 3) (F1 4) (F1 5) (F1 6) (F1 7) (F1 8)), MA_17, ⟨Nat.zero_le _, hJ.2.1, hJ.2.2.1, hJ.2.2.2.1, hJ.2.2.2.2.2.1, fun p b hp hb => (by have e0 := hJ.2.2.2.2.2.2.1 p b hp hb; rw [if_pos hp] at e0; exact e0), hJ.2.2.2.2.2.2.2, fun r hr => (by rw [if_neg (by omega)]; show F1 7 r = _; rw [hJ.2.2.2.2.1]; exact hC.2.2.1 r hr)⟩, (show fSame 239 249 _ _ from fSame.tr hsm fSame.rf)⟩⟩ hP hS
    clear hl hP hS
    intro st ct_18 H ls locs hI hP hS ih
    obtain ⟨r0, rfl⟩ : ∃ z, z = st := ⟨_, rfl⟩
    obtain ⟨hl, z1, F1, hM1, hI, hsm⟩ := hI
    have m_19o : ct_18 239 = .inr (8, [.ref (fa g 240), .ref (fa g 241), .int (z1 0), .ref (fa g 242), .ref (fa g 243), .ref (fa g 244), .int (z1 1), .ref (fa g 245), .int (z1 2), .ref (fa g 246), .ref (fa g 247), .ref (fa g 248), .int (z1 3), .int (z1 4), .int (z1 5), .int (z1 6), .int (z1 7), .int (z1 8), .int (z1 9)]) := (hM1).1
    have m_19r0 : ct_18 240 = .inl (fcI g, 121, .inl (F1 0)) := (hM1).2.1
    have m_19r1 : ct_18 241 = .inl (fcI g, 726, .inl (F1 1)) := (hM1).2.2.1
    have m_19r2 : ct_18 242 = .inl (fcI g, 242, .inl (F1 2)) := (hM1).2.2.2.1
    have m_19r3 : ct_18 243 = .inl (fcI g, 2, .inl (F1 3)) := (hM1).2.2.2.2.1
    have m_19r4 : ct_18 244 = .inl (fcI g, 60, .inl (F1 4)) := (hM1).2.2.2.2.2.1
    have m_19r5 : ct_18 245 = .inl (fcI g, 6, .inl (F1 5)) := (hM1).2.2.2.2.2.2.1
    have m_19r6 : ct_18 246 = .inl (fcI g, 36, .inl (F1 6)) := (hM1).2.2.2.2.2.2.2.1
    have m_19r7 : ct_18 247 = .inl (fcI g, 20, .inl (F1 7)) := (hM1).2.2.2.2.2.2.2.2.1
    have m_19r8 : ct_18 248 = .inl (fcI g, 20, .inl (F1 8)) := (hM1).2.2.2.2.2.2.2.2.2
    have hTl := KK.sr hI.2.1 hT
    have hWl : WR σ (wd (nB σ) q) F1 := fun p hp => by rw [hI.2.2.1]; exact hW p hp
    have hI1 := hI.1
    refine lv_iload_n hx hb dX8_takesIn_90 rfl (lv_at hl 1 rfl) ?_
    refine lv_aload_n hx hb dX8_takesIn_91 rfl (lv_at hl 0 rfl) ?_
    refine fs_get E hP (k := 239) (v := .ref (fa g 240)) 0 fc8 m_19o (by omega) (by decide) (wm wl_5 (i := 0) rfl) rfl dX8_takesIn_92 ?_
    refine lv_iconst (v := (nI 1)) hx hb dX8_takesIn_95 (by decide) ?_
    refine fs_iald E hP (k := 240) m_19r0 (by omega) (vp_in_nI (by omega) (by omega)) dX8_takesIn_96 ?_
    refine fs_vi (y := (F1 0) 1) (congrArg (F1 0) (nI_clamp (by omega))) ?_
    refine fs_vi (y := (nI (nT σ))) (hTl.k hG) ?_
    refine lv_icmp_ge (tgt := 128) hx hb dX8_takesIn_97 (by decide) (fun c_97 => ?_) (fun c_97 => ?_)
    · rw [nI_leI (by omega) (by omega)] at c_97
      have hm9 : mwQ σ (q + 1) = mwP (nB σ) (wd (nB σ) q) (mwQ σ q) (nB σ) := if_pos hok
      have c7 : ∀ r, r < nT σ → F1 7 r = nI (cN (hdq σ r) (q + 1)) := fun r hr => by have e0 := hI.2.2.2.2.2.2.2 r hr; rw [if_pos (by omega)] at e0; exact e0
      have c8 : ∀ r, r < nT σ → F1 8 r = nI (cN (onq σ r) (q + 1)) := fun r hr => by rw [hI.2.2.2.2.1, cN_f (okq_on hok)]; exact hC.2.2.2.1 r hr
      have c9 : MW (mwQ σ (q + 1)) (z1 3) (z1 4) := by rw [hm9]; exact hI.2.2.2.2.2.2.1
      have MA8 : MA g ct_18 (mkz (z1 0) (z1 1) (z1 2) (z1 3) (z1 4) (z1 5) (z1 6) (z1 7) (z1 8) (z1 9)) (mkF (F1 0) (F1 1) (F1 2) (F1 3) (F1 4) (F1 5) (F1 6) (F1 7) (F1 8)) := ⟨m_19o, m_19r0, m_19r1, m_19r2, m_19r3, m_19r4, m_19r5, m_19r6, m_19r7, m_19r8⟩
      refine fs_vret E hr hlk hP hS dX8_takesIn_128 ?_
      exact ⟨(mkz (z1 0) (z1 1) (z1 2) (z1 3) (z1 4) (z1 5) (z1 6) (z1 7) (z1 8) (z1 9)), (mkF (F1 0) (F1 1) (F1 2) (F1 3) (F1 4) (F1 5) (F1 6) (F1 7) (F1 8)), MA8, hI.2.1, ⟨hI.2.2.2.1, hI.2.2.2.2.2.1, c7, c8, c9⟩, (show fSame 239 249 _ _ from fSame.tr hsm fSame.rf)⟩
    · rw [nI_leI (by omega) (by omega)] at c_97
      refine lv_aload_n hx hb dX8_takesIn_100 rfl (lv_at hl 0 rfl) ?_
      refine fs_get E hP (k := 239) (v := .ref (fa g 247)) 10 fc8 m_19o (by omega) (by decide) (wm wl_5 (i := 7) rfl) rfl dX8_takesIn_101 ?_
      refine lv_iload_n hx hb dX8_takesIn_104 rfl (lv_at hl 1 rfl) ?_
      refine lv_dup2_11 hx hb dX8_takesIn_105 rfl rfl ?_
      refine fs_iald E hP (k := 247) m_19r7 (by omega) (vp_in_nI (by omega) (by omega)) dX8_takesIn_106 ?_
      refine fs_vi (y := (F1 7) r0) (congrArg (F1 7) (nI_clamp (by omega))) ?_
      refine fs_vi (y := (nI (cN (hdq σ r0) q))) (by have e0 := hI.2.2.2.2.2.2.2 r0 (by omega); rw [if_neg (by omega)] at e0; exact e0) ?_
      refine lv_aload_n hx hb dX8_takesIn_107 rfl (lv_at hl 0 rfl) ?_
      refine lv_iload_n hx hb dX8_takesIn_108 rfl (lv_at hl 1 rfl) ?_
      refine fs_pi (va_runV (As := [.int (nI r0)]) (rest := [.int (nI (cN (hdq σ r0) q)), .int (nI r0), .ref (fa g 247)]) E.1 (c_X8_holdsRumour l g N ct_18 z1 F1 σ (by omega) hG hM1 hTl (wd (nB σ) q) (wd_ok hn3 _) hWl r0 (by omega)) (lk_RX8_71 E.1.2.2.2.2 ⟨Nat.le_of_ble_eq_true rfl, Nat.le_of_ble_eq_true rfl⟩) (fpreV E hP hS fc8 m_19o (by omega)) rfl rfl hl.1 rfl (lv_room (Nat.le_of_ble_eq_true rfl)) dX8_takesIn_109 ⟨Nat.zero_le _, Nat.zero_le _⟩) hS (fun r_109 locs p_109 hS => ?_)
      refine lv_if_eq (tgt := 119) hx hb dX8_takesIn_112 (by decide) (fun c_112 => ?_) (fun c_112 => ?_)
      · have c_112 := (fb_0 p_109).mp c_112
        refine lv_iconst (v := (nI 0)) hx hb dX8_takesIn_119 (by decide) ?_
        refine lv_iadd hx hb dX8_takesIn_120 ?_
        refine fs_vi (y := (nI (cN (hdq σ r0) (q + 1)))) (by rw [cN_f ((hd_hit hok).trans (Bool.eq_false_iff.mpr c_112))]; exact nI_add _ 0) ?_
        refine fs_iast E hP hS (k := 247) m_19r7 (by omega) (vp_in_nI (by omega) (by omega)) dX8_takesIn_121 (fun ct_20 H locs q_21 hP hS => ?_)
        rw [nI_clamp (by omega)] at q_21
        have h_22 : ct_20 239 = .inr (8, [.ref (fa g 240), .ref (fa g 241), .int (z1 0), .ref (fa g 242), .ref (fa g 243), .ref (fa g 244), .int (z1 1), .ref (fa g 245), .int (z1 2), .ref (fa g 246), .ref (fa g 247), .ref (fa g 248), .int (z1 3), .int (z1 4), .int (z1 5), .int (z1 6), .int (z1 7), .int (z1 8), .int (z1 9)]) := by rw [q_21]; exact (fu_ne (by omega)).trans m_19o
        have h_23 : ct_20 240 = .inl (fcI g, 121, .inl (F1 0)) := by rw [q_21]; exact (fu_ne (by omega)).trans m_19r0
        have h_24 : ct_20 241 = .inl (fcI g, 726, .inl (F1 1)) := by rw [q_21]; exact (fu_ne (by omega)).trans m_19r1
        have h_25 : ct_20 242 = .inl (fcI g, 242, .inl (F1 2)) := by rw [q_21]; exact (fu_ne (by omega)).trans m_19r2
        have h_26 : ct_20 243 = .inl (fcI g, 2, .inl (F1 3)) := by rw [q_21]; exact (fu_ne (by omega)).trans m_19r3
        have h_27 : ct_20 244 = .inl (fcI g, 60, .inl (F1 4)) := by rw [q_21]; exact (fu_ne (by omega)).trans m_19r4
        have h_28 : ct_20 245 = .inl (fcI g, 6, .inl (F1 5)) := by rw [q_21]; exact (fu_ne (by omega)).trans m_19r5
        have h_29 : ct_20 246 = .inl (fcI g, 36, .inl (F1 6)) := by rw [q_21]; exact (fu_ne (by omega)).trans m_19r6
        have h_30 : ct_20 247 = .inl (fcI g, 20, .inl (upd (F1 7) r0 (nI (cN (hdq σ r0) (q + 1))))) := by rw [q_21]; exact fu_eq _ _ _
        have h_31 : ct_20 248 = .inl (fcI g, 20, .inl (F1 8)) := by rw [q_21]; exact (fu_ne (by omega)).trans m_19r8
        refine lv_iinc (v := (nI (r0 + 1))) (lv' := [(1, .int (nI (r0 + 1))), (0, .ref (fa g 239))]) hx hb dX8_takesIn_122 hl (k := 1) rfl (nI_1 _) (by decide) rfl (fun ls hl => ?_)
        refine lv_goto (tgt := 90) hx hb dX8_takesIn_125 (by decide) ?_
        have MA9 : MA g ct_20 (mkz (z1 0) (z1 1) (z1 2) (z1 3) (z1 4) (z1 5) (z1 6) (z1 7) (z1 8) (z1 9)) (mkF (F1 0) (F1 1) (F1 2) (F1 3) (F1 4) (F1 5) (F1 6) (upd (F1 7) r0 (nI (cN (hdq σ r0) (q + 1)))) (F1 8)) := ⟨h_22, h_23, h_24, h_25, h_26, h_27, h_28, h_29, h_30, h_31⟩
        have hhd9 : ∀ r1, r1 < nT σ → upd (F1 7) r0 (nI (cN (hdq σ r0) (q + 1))) r1 = nI (cN (hdq σ r1) (if r1 < r0 + 1 then q + 1 else q)) := (fun r1 hr1 => by
          have e0 := hI.2.2.2.2.2.2.2 r1 hr1
          by_cases y : r1 = r0
          · subst y; rw [upd_eq, if_pos (by omega)]
          · rw [upd_ne y]
            by_cases x : r1 < r0
            · rw [if_pos x] at e0; rw [if_pos (by omega)]; exact e0
            · rw [if_neg x] at e0; rw [if_neg (by omega)]; exact e0)
        exact ih (r0 + 1) _ _ ls _ (by (try dsimp only); omega) ⟨lv_sub hl [1, 0] rfl, ⟨_, _, MA9, ⟨by omega, hI.2.1, hI.2.2.1, hI.2.2.2.1, hI.2.2.2.2.1, hI.2.2.2.2.2.1, hI.2.2.2.2.2.2.1, hhd9⟩, (show fSame 239 249 _ _ from fSame.tr hsm (fSame.ap fSame.rf q_21 (by omega) (by omega)))⟩⟩ hP hS
      · have c_112 := (fb_1 p_109).mp c_112
        refine lv_iconst (v := (nI 1)) hx hb dX8_takesIn_115 (by decide) ?_
        refine lv_goto (tgt := 120) hx hb dX8_takesIn_116 (by decide) ?_
        refine lv_iadd hx hb dX8_takesIn_120 ?_
        refine fs_vi (y := (nI (cN (hdq σ r0) (q + 1)))) (by rw [cN_t ((hd_hit hok).trans c_112)]; exact nI_1 _) ?_
        refine fs_iast E hP hS (k := 247) m_19r7 (by omega) (vp_in_nI (by omega) (by omega)) dX8_takesIn_121 (fun ct_32 H locs q_33 hP hS => ?_)
        rw [nI_clamp (by omega)] at q_33
        have h_34 : ct_32 239 = .inr (8, [.ref (fa g 240), .ref (fa g 241), .int (z1 0), .ref (fa g 242), .ref (fa g 243), .ref (fa g 244), .int (z1 1), .ref (fa g 245), .int (z1 2), .ref (fa g 246), .ref (fa g 247), .ref (fa g 248), .int (z1 3), .int (z1 4), .int (z1 5), .int (z1 6), .int (z1 7), .int (z1 8), .int (z1 9)]) := by rw [q_33]; exact (fu_ne (by omega)).trans m_19o
        have h_35 : ct_32 240 = .inl (fcI g, 121, .inl (F1 0)) := by rw [q_33]; exact (fu_ne (by omega)).trans m_19r0
        have h_36 : ct_32 241 = .inl (fcI g, 726, .inl (F1 1)) := by rw [q_33]; exact (fu_ne (by omega)).trans m_19r1
        have h_37 : ct_32 242 = .inl (fcI g, 242, .inl (F1 2)) := by rw [q_33]; exact (fu_ne (by omega)).trans m_19r2
        have h_38 : ct_32 243 = .inl (fcI g, 2, .inl (F1 3)) := by rw [q_33]; exact (fu_ne (by omega)).trans m_19r3
        have h_39 : ct_32 244 = .inl (fcI g, 60, .inl (F1 4)) := by rw [q_33]; exact (fu_ne (by omega)).trans m_19r4
        have h_40 : ct_32 245 = .inl (fcI g, 6, .inl (F1 5)) := by rw [q_33]; exact (fu_ne (by omega)).trans m_19r5
        have h_41 : ct_32 246 = .inl (fcI g, 36, .inl (F1 6)) := by rw [q_33]; exact (fu_ne (by omega)).trans m_19r6
        have h_42 : ct_32 247 = .inl (fcI g, 20, .inl (upd (F1 7) r0 (nI (cN (hdq σ r0) (q + 1))))) := by rw [q_33]; exact fu_eq _ _ _
        have h_43 : ct_32 248 = .inl (fcI g, 20, .inl (F1 8)) := by rw [q_33]; exact (fu_ne (by omega)).trans m_19r8
        refine lv_iinc (v := (nI (r0 + 1))) (lv' := [(1, .int (nI (r0 + 1))), (0, .ref (fa g 239))]) hx hb dX8_takesIn_122 hl (k := 1) rfl (nI_1 _) (by decide) rfl (fun ls hl => ?_)
        refine lv_goto (tgt := 90) hx hb dX8_takesIn_125 (by decide) ?_
        have MA9 : MA g ct_32 (mkz (z1 0) (z1 1) (z1 2) (z1 3) (z1 4) (z1 5) (z1 6) (z1 7) (z1 8) (z1 9)) (mkF (F1 0) (F1 1) (F1 2) (F1 3) (F1 4) (F1 5) (F1 6) (upd (F1 7) r0 (nI (cN (hdq σ r0) (q + 1)))) (F1 8)) := ⟨h_34, h_35, h_36, h_37, h_38, h_39, h_40, h_41, h_42, h_43⟩
        have hhd9 : ∀ r1, r1 < nT σ → upd (F1 7) r0 (nI (cN (hdq σ r0) (q + 1))) r1 = nI (cN (hdq σ r1) (if r1 < r0 + 1 then q + 1 else q)) := (fun r1 hr1 => by
          have e0 := hI.2.2.2.2.2.2.2 r1 hr1
          by_cases y : r1 = r0
          · subst y; rw [upd_eq, if_pos (by omega)]
          · rw [upd_ne y]
            by_cases x : r1 < r0
            · rw [if_pos x] at e0; rw [if_pos (by omega)]; exact e0
            · rw [if_neg x] at e0; rw [if_neg (by omega)]; exact e0)
        exact ih (r0 + 1) _ _ ls _ (by (try dsimp only); omega) ⟨lv_sub hl [1, 0] rfl, ⟨_, _, MA9, ⟨by omega, hI.2.1, hI.2.2.1, hI.2.2.2.1, hI.2.2.2.2.1, hI.2.2.2.2.2.1, hI.2.2.2.2.2.2.1, hhd9⟩, (show fSame 239 249 _ _ from fSame.tr hsm (fSame.ap fSame.rf q_33 (by omega) (by omega)))⟩⟩ hP hS
  · rw [nI_leI (by omega) (by omega)] at c_19
    have hwi := (wd_ok hn3 q) i (show i < nB σ by omega)
    refine lv_aload_n hx hb dX8_takesIn_22 rfl (lv_at hl 0 rfl) ?_
    refine fs_get E hP (k := 239) (v := .ref (fa g 246)) 9 fc8 m_16o (by omega) (by decide) (wm wl_5 (i := 6) rfl) rfl dX8_takesIn_23 ?_
    refine lv_bipush (v := (nI 6)) hx hb dX8_takesIn_26 (by decide) ?_
    refine lv_iload_n hx hb dX8_takesIn_28 rfl (lv_at hl 1 rfl) ?_
    refine lv_imul hx hb dX8_takesIn_29 ?_
    refine fs_vi (y := nI (6 * i)) (pk_mul _ _) ?_
    refine lv_aload_n hx hb dX8_takesIn_30 rfl (lv_at hl 0 rfl) ?_
    refine fs_get E hP (k := 239) (v := .ref (fa g 245)) 7 fc8 m_16o (by omega) (by decide) (wm wl_5 (i := 5) rfl) rfl dX8_takesIn_31 ?_
    refine lv_iload_n hx hb dX8_takesIn_34 rfl (lv_at hl 1 rfl) ?_
    refine fs_iald E hP (k := 245) m_16r5 (by omega) (vp_in_nI (by omega) (by omega)) dX8_takesIn_35 ?_
    refine fs_vi (y := (F1 5) i) (congrArg (F1 5) (nI_clamp (by omega))) ?_
    refine fs_vi (y := (nI ((wd (nB σ) q) i))) ((congrFun hI.2.2.1 i).trans (hW i (by omega))) ?_
    refine lv_iadd hx hb dX8_takesIn_36 ?_
    refine fs_vi (y := nI (6 * i + (wd (nB σ) q) i)) (nI_add _ _) ?_
    refine lv_dup2_11 hx hb dX8_takesIn_37 rfl rfl ?_
    refine fs_iald E hP (k := 246) m_16r6 (by omega) (vp_in_nI (by omega) (by omega)) dX8_takesIn_38 ?_
    refine fs_vi (y := (F1 6) (6 * i + (wd (nB σ) q) i)) (congrArg (F1 6) (nI_clamp (by omega))) ?_
    refine fs_vi (y := (nI (cN (lkq σ i ((wd (nB σ) q) i)) q))) (by have e0 := hI.2.2.2.2.2.2.1 i ((wd (nB σ) q) i) (by omega) (by omega); rw [if_neg (by omega)] at e0; exact e0) ?_
    refine lv_iconst (v := (nI 1)) hx hb dX8_takesIn_39 (by decide) ?_
    refine lv_iadd hx hb dX8_takesIn_40 ?_
    refine fs_vi (y := (nI (cN (lkq σ i ((wd (nB σ) q) i)) (q + 1)))) (by rw [cN_t (lk_hit hok)]; exact nI_1 _) ?_
    refine fs_iast E hP hS (k := 246) m_16r6 (by omega) (vp_in_nI (by omega) (by omega)) dX8_takesIn_41 (fun ct_44 H locs q_45 hP hS => ?_)
    rw [nI_clamp (by omega)] at q_45
    have h_46 : ct_44 239 = .inr (8, [.ref (fa g 240), .ref (fa g 241), .int (z1 0), .ref (fa g 242), .ref (fa g 243), .ref (fa g 244), .int (z1 1), .ref (fa g 245), .int (z1 2), .ref (fa g 246), .ref (fa g 247), .ref (fa g 248), .int (z1 3), .int (z1 4), .int (z1 5), .int (z1 6), .int (z1 7), .int (z1 8), .int (z1 9)]) := by rw [q_45]; exact (fu_ne (by omega)).trans m_16o
    have h_47 : ct_44 240 = .inl (fcI g, 121, .inl (F1 0)) := by rw [q_45]; exact (fu_ne (by omega)).trans m_16r0
    have h_48 : ct_44 241 = .inl (fcI g, 726, .inl (F1 1)) := by rw [q_45]; exact (fu_ne (by omega)).trans m_16r1
    have h_49 : ct_44 242 = .inl (fcI g, 242, .inl (F1 2)) := by rw [q_45]; exact (fu_ne (by omega)).trans m_16r2
    have h_50 : ct_44 243 = .inl (fcI g, 2, .inl (F1 3)) := by rw [q_45]; exact (fu_ne (by omega)).trans m_16r3
    have h_51 : ct_44 244 = .inl (fcI g, 60, .inl (F1 4)) := by rw [q_45]; exact (fu_ne (by omega)).trans m_16r4
    have h_52 : ct_44 245 = .inl (fcI g, 6, .inl (F1 5)) := by rw [q_45]; exact (fu_ne (by omega)).trans m_16r5
    have h_53 : ct_44 246 = .inl (fcI g, 36, .inl (upd (F1 6) (6 * i + (wd (nB σ) q) i) (nI (cN (lkq σ i ((wd (nB σ) q) i)) (q + 1))))) := by rw [q_45]; exact fu_eq _ _ _
    have h_54 : ct_44 247 = .inl (fcI g, 20, .inl (F1 7)) := by rw [q_45]; exact (fu_ne (by omega)).trans m_16r7
    have h_55 : ct_44 248 = .inl (fcI g, 20, .inl (F1 8)) := by rw [q_45]; exact (fu_ne (by omega)).trans m_16r8
    have MA7 : MA g ct_44 (mkz (z1 0) (z1 1) (z1 2) (z1 3) (z1 4) (z1 5) (z1 6) (z1 7) (z1 8) (z1 9)) (mkF (F1 0) (F1 1) (F1 2) (F1 3) (F1 4) (F1 5) (upd (F1 6) (6 * i + (wd (nB σ) q) i) (nI (cN (lkq σ i ((wd (nB σ) q) i)) (q + 1)))) (F1 7) (F1 8)) := ⟨h_46, h_47, h_48, h_49, h_50, h_51, h_52, h_53, h_54, h_55⟩
    refine lv_aload_n hx hb dX8_takesIn_42 rfl (lv_at hl 0 rfl) ?_
    refine lv_iload_n hx hb dX8_takesIn_43 rfl (lv_at hl 1 rfl) ?_
    refine fs_pi (va_runV (As := [.int (nI i)]) (rest := []) E.1 (c_X8_lookers l g N ct_44 (mkz (z1 0) (z1 1) (z1 2) (z1 3) (z1 4) (z1 5) (z1 6) (z1 7) (z1 8) (z1 9)) (mkF (F1 0) (F1 1) (F1 2) (F1 3) (F1 4) (F1 5) (upd (F1 6) (6 * i + (wd (nB σ) q) i) (nI (cN (lkq σ i ((wd (nB σ) q) i)) (q + 1)))) (F1 7) (F1 8)) σ (by omega) hG MA7 hTl (wd (nB σ) q) (wd_ok hn3 _) hWl i (by omega)) (lk_RX8_61 E.1.2.2.2.2 ⟨Nat.le_of_ble_eq_true rfl, Nat.le_of_ble_eq_true rfl⟩) (fpreV E hP hS fc8 h_46 (by omega)) rfl rfl hl.1 rfl (lv_room (Nat.le_of_ble_eq_true rfl)) dX8_takesIn_44 ⟨Nat.zero_le _, Nat.zero_le _⟩) hS (fun r_44 locs p_44 hS => ?_)
    refine fs_vi (y := (nI (cN (fun p => decide ((wd (nB σ) q) p = i)) (nB σ)))) p_44 ?_
    have hcn := cN_lt7 (p := fun p => decide ((wd (nB σ) q) p = i)) hn6
    have hmw := hI.2.2.2.2.2.2.2
    have hml := mwP_le (w := (wd (nB σ) q)) hn6 (mwQ_lt hG q) i (by omega)
    refine lv_istore_n (lv' := [(2, .int (nI (cN (fun p => decide ((wd (nB σ) q) p = i)) (nB σ)))), (0, .ref (fa g 239)), (1, .int (nI i))]) hx hb dX8_takesIn_47 rfl hl (by decide) rfl (fun ls hl => ?_)
    refine lv_iload_n hx hb dX8_takesIn_48 rfl (lv_at hl 0 rfl) ?_
    refine lv_aload_n hx hb dX8_takesIn_49 rfl (lv_at hl 1 rfl) ?_
    refine fs_get E hP (k := 239) (v := .int (z1 4)) 13 fc8 h_46 (by omega) (by decide) (wm wl_21 (i := 17) rfl) rfl dX8_takesIn_50 ?_
    refine fs_vi (y := nI (mwP (nB σ) (wd (nB σ) q) (mwQ σ q) i).2) hmw.b ?_
    refine lv_icmp_gt (tgt := 72) hx hb dX8_takesIn_53 (by decide) (fun c_53 => ?_) (fun c_53 => ?_)
    · rw [nI_ltI (by omega) (by omega)] at c_53
      refine lv_aload_n hx hb dX8_takesIn_72 rfl (lv_at hl 1 rfl) ?_
      refine lv_iload_n hx hb dX8_takesIn_73 rfl (lv_at hl 0 rfl) ?_
      refine fs_put E hP hS (k := 239) 13 fc8 h_46 (by omega) (by decide) (wm wl_21 (i := 17) rfl) rfl rfl rfl rfl (Nat.le_of_ble_eq_true rfl) dX8_takesIn_74 (fun ct_56 H locs q_57 hP hS => ?_)
      have h_58 : ct_56 239 = .inr (8, [.ref (fa g 240), .ref (fa g 241), .int (z1 0), .ref (fa g 242), .ref (fa g 243), .ref (fa g 244), .int (z1 1), .ref (fa g 245), .int (z1 2), .ref (fa g 246), .ref (fa g 247), .ref (fa g 248), .int (z1 3), .int (nI (cN (fun p => decide ((wd (nB σ) q) p = i)) (nB σ))), .int (z1 5), .int (z1 6), .int (z1 7), .int (z1 8), .int (z1 9)]) := by rw [q_57]; exact fu_eq _ _ _
      have h_59 : ct_56 240 = .inl (fcI g, 121, .inl (F1 0)) := by rw [q_57]; exact (fu_ne (by omega)).trans h_47
      have h_60 : ct_56 241 = .inl (fcI g, 726, .inl (F1 1)) := by rw [q_57]; exact (fu_ne (by omega)).trans h_48
      have h_61 : ct_56 242 = .inl (fcI g, 242, .inl (F1 2)) := by rw [q_57]; exact (fu_ne (by omega)).trans h_49
      have h_62 : ct_56 243 = .inl (fcI g, 2, .inl (F1 3)) := by rw [q_57]; exact (fu_ne (by omega)).trans h_50
      have h_63 : ct_56 244 = .inl (fcI g, 60, .inl (F1 4)) := by rw [q_57]; exact (fu_ne (by omega)).trans h_51
      have h_64 : ct_56 245 = .inl (fcI g, 6, .inl (F1 5)) := by rw [q_57]; exact (fu_ne (by omega)).trans h_52
      have h_65 : ct_56 246 = .inl (fcI g, 36, .inl (upd (F1 6) (6 * i + (wd (nB σ) q) i) (nI (cN (lkq σ i ((wd (nB σ) q) i)) (q + 1))))) := by rw [q_57]; exact (fu_ne (by omega)).trans h_53
      have h_66 : ct_56 247 = .inl (fcI g, 20, .inl (F1 7)) := by rw [q_57]; exact (fu_ne (by omega)).trans h_54
      have h_67 : ct_56 248 = .inl (fcI g, 20, .inl (F1 8)) := by rw [q_57]; exact (fu_ne (by omega)).trans h_55
      refine lv_aload_n hx hb dX8_takesIn_77 rfl (lv_at hl 1 rfl) ?_
      refine lv_iload_n hx hb dX8_takesIn_78 rfl (lv_at hl 2 rfl) ?_
      refine fs_put E hP hS (k := 239) 12 fc8 h_58 (by omega) (by decide) (wm wl_21 (i := 16) rfl) rfl rfl rfl rfl (Nat.le_of_ble_eq_true rfl) dX8_takesIn_79 (fun ct_68 H locs q_69 hP hS => ?_)
      have h_70 : ct_68 239 = .inr (8, [.ref (fa g 240), .ref (fa g 241), .int (z1 0), .ref (fa g 242), .ref (fa g 243), .ref (fa g 244), .int (z1 1), .ref (fa g 245), .int (z1 2), .ref (fa g 246), .ref (fa g 247), .ref (fa g 248), .int (nI i), .int (nI (cN (fun p => decide ((wd (nB σ) q) p = i)) (nB σ))), .int (z1 5), .int (z1 6), .int (z1 7), .int (z1 8), .int (z1 9)]) := by rw [q_69]; exact fu_eq _ _ _
      have h_71 : ct_68 240 = .inl (fcI g, 121, .inl (F1 0)) := by rw [q_69]; exact (fu_ne (by omega)).trans h_59
      have h_72 : ct_68 241 = .inl (fcI g, 726, .inl (F1 1)) := by rw [q_69]; exact (fu_ne (by omega)).trans h_60
      have h_73 : ct_68 242 = .inl (fcI g, 242, .inl (F1 2)) := by rw [q_69]; exact (fu_ne (by omega)).trans h_61
      have h_74 : ct_68 243 = .inl (fcI g, 2, .inl (F1 3)) := by rw [q_69]; exact (fu_ne (by omega)).trans h_62
      have h_75 : ct_68 244 = .inl (fcI g, 60, .inl (F1 4)) := by rw [q_69]; exact (fu_ne (by omega)).trans h_63
      have h_76 : ct_68 245 = .inl (fcI g, 6, .inl (F1 5)) := by rw [q_69]; exact (fu_ne (by omega)).trans h_64
      have h_77 : ct_68 246 = .inl (fcI g, 36, .inl (upd (F1 6) (6 * i + (wd (nB σ) q) i) (nI (cN (lkq σ i ((wd (nB σ) q) i)) (q + 1))))) := by rw [q_69]; exact (fu_ne (by omega)).trans h_65
      have h_78 : ct_68 247 = .inl (fcI g, 20, .inl (F1 7)) := by rw [q_69]; exact (fu_ne (by omega)).trans h_66
      have h_79 : ct_68 248 = .inl (fcI g, 20, .inl (F1 8)) := by rw [q_69]; exact (fu_ne (by omega)).trans h_67
      refine lv_iinc (v := (nI (i + 1))) (lv' := [(1, .int (nI (i + 1))), (2, .int (nI (cN (fun p => decide ((wd (nB σ) q) p = i)) (nB σ)))), (0, .ref (fa g 239))]) hx hb dX8_takesIn_82 hl (k := 2) rfl (nI_1 _) (by decide) rfl (fun ls hl => ?_)
      refine lv_goto (tgt := 12) hx hb dX8_takesIn_85 (by decide) ?_
      have MA9 : MA g ct_68 (mkz (z1 0) (z1 1) (z1 2) (nI i) (nI (cN (fun p => decide ((wd (nB σ) q) p = i)) (nB σ))) (z1 5) (z1 6) (z1 7) (z1 8) (z1 9)) (mkF (F1 0) (F1 1) (F1 2) (F1 3) (F1 4) (F1 5) (upd (F1 6) (6 * i + (wd (nB σ) q) i) (nI (cN (lkq σ i ((wd (nB σ) q) i)) (q + 1)))) (F1 7) (F1 8)) := ⟨h_70, h_71, h_72, h_73, h_74, h_75, h_76, h_77, h_78, h_79⟩
      have hms : mwP (nB σ) (wd (nB σ) q) (mwQ σ q) (i + 1) = (if (mwP (nB σ) (wd (nB σ) q) (mwQ σ q) i).2 < (cN (fun p => decide ((wd (nB σ) q) p = i)) (nB σ)) ∨ ((cN (fun p => decide ((wd (nB σ) q) p = i)) (nB σ)) = (mwP (nB σ) (wd (nB σ) q) (mwQ σ q) i).2 ∧ i < (mwP (nB σ) (wd (nB σ) q) (mwQ σ q) i).1) then (i, (cN (fun p => decide ((wd (nB σ) q) p = i)) (nB σ))) else (mwP (nB σ) (wd (nB σ) q) (mwQ σ q) i)) := rfl
      have hcc : (mwP (nB σ) (wd (nB σ) q) (mwQ σ q) i).2 < (cN (fun p => decide ((wd (nB σ) q) p = i)) (nB σ)) ∨ ((cN (fun p => decide ((wd (nB σ) q) p = i)) (nB σ)) = (mwP (nB σ) (wd (nB σ) q) (mwQ σ q) i).2 ∧ i < (mwP (nB σ) (wd (nB σ) q) (mwQ σ q) i).1) := Or.inl (by omega)
      rw [if_pos hcc] at hms
      have hlk9 : ∀ p b, p < nB σ → b < 6 → upd (F1 6) (6 * i + (wd (nB σ) q) i) (nI (cN (lkq σ i ((wd (nB σ) q) i)) (q + 1))) (6 * p + b) = nI (cN (lkq σ p b) (if p < i + 1 then q + 1 else q)) := (fun p b hp hb => by
        have hwi := (wd_ok hn3 q) i (by omega)
        show upd (F1 6) (6 * i + (wd (nB σ) q) i) _ (6 * p + b) = _
        by_cases y : p = i
        · subst y
          rw [if_pos (by omega)]
          by_cases x : b = (wd (nB σ) q) p
          · subst x; exact upd_eq _ _ _
          · rw [upd_ne (by omega), cN_f (lk_miss (Ne.symm x))]
            have e0 := hI.2.2.2.2.2.2.1 p b hp hb
            rw [if_neg (by omega)] at e0; exact e0
        · rw [upd_ne (by omega)]
          have e0 := hI.2.2.2.2.2.2.1 p b hp hb
          by_cases x : p < i
          · rw [if_pos x] at e0; rw [if_pos (by omega)]; exact e0
          · rw [if_neg x] at e0; rw [if_neg (by omega)]; exact e0)
      exact ih (i + 1) _ _ ls _ (by (try dsimp only); omega) ⟨lv_sub hl [2, 0] rfl, ⟨_, _, MA9, ⟨by omega, hI.2.1, hI.2.2.1, hI.2.2.2.1, hI.2.2.2.2.1, hI.2.2.2.2.2.1, hlk9, (by rw [hms]; exact hmw.yes hcc)⟩, (show fSame 239 249 _ _ from fSame.tr hsm (fSame.ap (fSame.ap (fSame.ap fSame.rf q_45 (by omega) (by omega)) q_57 (by omega) (by omega)) q_69 (by omega) (by omega)))⟩⟩ hP hS
    · rw [nI_ltI (by omega) (by omega)] at c_53
      refine lv_iload_n hx hb dX8_takesIn_56 rfl (lv_at hl 0 rfl) ?_
      refine lv_aload_n hx hb dX8_takesIn_57 rfl (lv_at hl 1 rfl) ?_
      refine fs_get E hP (k := 239) (v := .int (z1 4)) 13 fc8 h_46 (by omega) (by decide) (wm wl_21 (i := 17) rfl) rfl dX8_takesIn_58 ?_
      refine fs_vi (y := nI (mwP (nB σ) (wd (nB σ) q) (mwQ σ q) i).2) hmw.b ?_
      refine lv_icmp_ne (tgt := 82) hx hb dX8_takesIn_61 (by decide) (fun c_61 => ?_) (fun c_61 => ?_)
      · rw [nI_eq (by omega) (by omega)] at c_61
        refine lv_iinc (v := (nI (i + 1))) (lv' := [(1, .int (nI (i + 1))), (2, .int (nI (cN (fun p => decide ((wd (nB σ) q) p = i)) (nB σ)))), (0, .ref (fa g 239))]) hx hb dX8_takesIn_82 hl (k := 2) rfl (nI_1 _) (by decide) rfl (fun ls hl => ?_)
        refine lv_goto (tgt := 12) hx hb dX8_takesIn_85 (by decide) ?_
        have MA9 : MA g ct_44 (mkz (z1 0) (z1 1) (z1 2) (z1 3) (z1 4) (z1 5) (z1 6) (z1 7) (z1 8) (z1 9)) (mkF (F1 0) (F1 1) (F1 2) (F1 3) (F1 4) (F1 5) (upd (F1 6) (6 * i + (wd (nB σ) q) i) (nI (cN (lkq σ i ((wd (nB σ) q) i)) (q + 1)))) (F1 7) (F1 8)) := ⟨h_46, h_47, h_48, h_49, h_50, h_51, h_52, h_53, h_54, h_55⟩
        have hms : mwP (nB σ) (wd (nB σ) q) (mwQ σ q) (i + 1) = (if (mwP (nB σ) (wd (nB σ) q) (mwQ σ q) i).2 < (cN (fun p => decide ((wd (nB σ) q) p = i)) (nB σ)) ∨ ((cN (fun p => decide ((wd (nB σ) q) p = i)) (nB σ)) = (mwP (nB σ) (wd (nB σ) q) (mwQ σ q) i).2 ∧ i < (mwP (nB σ) (wd (nB σ) q) (mwQ σ q) i).1) then (i, (cN (fun p => decide ((wd (nB σ) q) p = i)) (nB σ))) else (mwP (nB σ) (wd (nB σ) q) (mwQ σ q) i)) := rfl
        have hcc : ¬ ((mwP (nB σ) (wd (nB σ) q) (mwQ σ q) i).2 < (cN (fun p => decide ((wd (nB σ) q) p = i)) (nB σ)) ∨ ((cN (fun p => decide ((wd (nB σ) q) p = i)) (nB σ)) = (mwP (nB σ) (wd (nB σ) q) (mwQ σ q) i).2 ∧ i < (mwP (nB σ) (wd (nB σ) q) (mwQ σ q) i).1)) := fun y => by
          omega
        rw [if_neg hcc] at hms
        have hlk9 : ∀ p b, p < nB σ → b < 6 → upd (F1 6) (6 * i + (wd (nB σ) q) i) (nI (cN (lkq σ i ((wd (nB σ) q) i)) (q + 1))) (6 * p + b) = nI (cN (lkq σ p b) (if p < i + 1 then q + 1 else q)) := (fun p b hp hb => by
          have hwi := (wd_ok hn3 q) i (by omega)
          show upd (F1 6) (6 * i + (wd (nB σ) q) i) _ (6 * p + b) = _
          by_cases y : p = i
          · subst y
            rw [if_pos (by omega)]
            by_cases x : b = (wd (nB σ) q) p
            · subst x; exact upd_eq _ _ _
            · rw [upd_ne (by omega), cN_f (lk_miss (Ne.symm x))]
              have e0 := hI.2.2.2.2.2.2.1 p b hp hb
              rw [if_neg (by omega)] at e0; exact e0
          · rw [upd_ne (by omega)]
            have e0 := hI.2.2.2.2.2.2.1 p b hp hb
            by_cases x : p < i
            · rw [if_pos x] at e0; rw [if_pos (by omega)]; exact e0
            · rw [if_neg x] at e0; rw [if_neg (by omega)]; exact e0)
        exact ih (i + 1) _ _ ls _ (by (try dsimp only); omega) ⟨lv_sub hl [2, 0] rfl, ⟨_, _, MA9, ⟨by omega, hI.2.1, hI.2.2.1, hI.2.2.2.1, hI.2.2.2.2.1, hI.2.2.2.2.2.1, hlk9, (by rw [hms]; exact hmw)⟩, (show fSame 239 249 _ _ from fSame.tr hsm (fSame.ap fSame.rf q_45 (by omega) (by omega)))⟩⟩ hP hS
      · rw [nI_eq (by omega) (by omega)] at c_61
        refine lv_iload_n hx hb dX8_takesIn_64 rfl (lv_at hl 2 rfl) ?_
        refine lv_aload_n hx hb dX8_takesIn_65 rfl (lv_at hl 1 rfl) ?_
        refine fs_get E hP (k := 239) (v := .int (z1 3)) 12 fc8 h_46 (by omega) (by decide) (wm wl_21 (i := 16) rfl) rfl dX8_takesIn_66 ?_
        refine lv_icmp_ge (tgt := 82) hx hb dX8_takesIn_69 (by decide) (fun c_69 => ?_) (fun c_69 => ?_)
        · refine lv_iinc (v := (nI (i + 1))) (lv' := [(1, .int (nI (i + 1))), (2, .int (nI (cN (fun p => decide ((wd (nB σ) q) p = i)) (nB σ)))), (0, .ref (fa g 239))]) hx hb dX8_takesIn_82 hl (k := 2) rfl (nI_1 _) (by decide) rfl (fun ls hl => ?_)
          refine lv_goto (tgt := 12) hx hb dX8_takesIn_85 (by decide) ?_
          have MA9 : MA g ct_44 (mkz (z1 0) (z1 1) (z1 2) (z1 3) (z1 4) (z1 5) (z1 6) (z1 7) (z1 8) (z1 9)) (mkF (F1 0) (F1 1) (F1 2) (F1 3) (F1 4) (F1 5) (upd (F1 6) (6 * i + (wd (nB σ) q) i) (nI (cN (lkq σ i ((wd (nB σ) q) i)) (q + 1)))) (F1 7) (F1 8)) := ⟨h_46, h_47, h_48, h_49, h_50, h_51, h_52, h_53, h_54, h_55⟩
          have hms : mwP (nB σ) (wd (nB σ) q) (mwQ σ q) (i + 1) = (if (mwP (nB σ) (wd (nB σ) q) (mwQ σ q) i).2 < (cN (fun p => decide ((wd (nB σ) q) p = i)) (nB σ)) ∨ ((cN (fun p => decide ((wd (nB σ) q) p = i)) (nB σ)) = (mwP (nB σ) (wd (nB σ) q) (mwQ σ q) i).2 ∧ i < (mwP (nB σ) (wd (nB σ) q) (mwQ σ q) i).1) then (i, (cN (fun p => decide ((wd (nB σ) q) p = i)) (nB σ))) else (mwP (nB σ) (wd (nB σ) q) (mwQ σ q) i)) := rfl
          have hcc : ¬ ((mwP (nB σ) (wd (nB σ) q) (mwQ σ q) i).2 < (cN (fun p => decide ((wd (nB σ) q) p = i)) (nB σ)) ∨ ((cN (fun p => decide ((wd (nB σ) q) p = i)) (nB σ)) = (mwP (nB σ) (wd (nB σ) q) (mwQ σ q) i).2 ∧ i < (mwP (nB σ) (wd (nB σ) q) (mwQ σ q) i).1)) := fun y => by
            rcases y with y | y
            · omega
            · exact ((hmw.lt (by omega) (by omega)).mpr y.2) c_69
          rw [if_neg hcc] at hms
          have hlk9 : ∀ p b, p < nB σ → b < 6 → upd (F1 6) (6 * i + (wd (nB σ) q) i) (nI (cN (lkq σ i ((wd (nB σ) q) i)) (q + 1))) (6 * p + b) = nI (cN (lkq σ p b) (if p < i + 1 then q + 1 else q)) := (fun p b hp hb => by
            have hwi := (wd_ok hn3 q) i (by omega)
            show upd (F1 6) (6 * i + (wd (nB σ) q) i) _ (6 * p + b) = _
            by_cases y : p = i
            · subst y
              rw [if_pos (by omega)]
              by_cases x : b = (wd (nB σ) q) p
              · subst x; exact upd_eq _ _ _
              · rw [upd_ne (by omega), cN_f (lk_miss (Ne.symm x))]
                have e0 := hI.2.2.2.2.2.2.1 p b hp hb
                rw [if_neg (by omega)] at e0; exact e0
            · rw [upd_ne (by omega)]
              have e0 := hI.2.2.2.2.2.2.1 p b hp hb
              by_cases x : p < i
              · rw [if_pos x] at e0; rw [if_pos (by omega)]; exact e0
              · rw [if_neg x] at e0; rw [if_neg (by omega)]; exact e0)
          exact ih (i + 1) _ _ ls _ (by (try dsimp only); omega) ⟨lv_sub hl [2, 0] rfl, ⟨_, _, MA9, ⟨by omega, hI.2.1, hI.2.2.1, hI.2.2.2.1, hI.2.2.2.2.1, hI.2.2.2.2.2.1, hlk9, (by rw [hms]; exact hmw)⟩, (show fSame 239 249 _ _ from fSame.tr hsm (fSame.ap fSame.rf q_45 (by omega) (by omega)))⟩⟩ hP hS
        · refine lv_aload_n hx hb dX8_takesIn_72 rfl (lv_at hl 1 rfl) ?_
          refine lv_iload_n hx hb dX8_takesIn_73 rfl (lv_at hl 0 rfl) ?_
          refine fs_put E hP hS (k := 239) 13 fc8 h_46 (by omega) (by decide) (wm wl_21 (i := 17) rfl) rfl rfl rfl rfl (Nat.le_of_ble_eq_true rfl) dX8_takesIn_74 (fun ct_80 H locs q_81 hP hS => ?_)
          have h_82 : ct_80 239 = .inr (8, [.ref (fa g 240), .ref (fa g 241), .int (z1 0), .ref (fa g 242), .ref (fa g 243), .ref (fa g 244), .int (z1 1), .ref (fa g 245), .int (z1 2), .ref (fa g 246), .ref (fa g 247), .ref (fa g 248), .int (z1 3), .int (nI (cN (fun p => decide ((wd (nB σ) q) p = i)) (nB σ))), .int (z1 5), .int (z1 6), .int (z1 7), .int (z1 8), .int (z1 9)]) := by rw [q_81]; exact fu_eq _ _ _
          have h_83 : ct_80 240 = .inl (fcI g, 121, .inl (F1 0)) := by rw [q_81]; exact (fu_ne (by omega)).trans h_47
          have h_84 : ct_80 241 = .inl (fcI g, 726, .inl (F1 1)) := by rw [q_81]; exact (fu_ne (by omega)).trans h_48
          have h_85 : ct_80 242 = .inl (fcI g, 242, .inl (F1 2)) := by rw [q_81]; exact (fu_ne (by omega)).trans h_49
          have h_86 : ct_80 243 = .inl (fcI g, 2, .inl (F1 3)) := by rw [q_81]; exact (fu_ne (by omega)).trans h_50
          have h_87 : ct_80 244 = .inl (fcI g, 60, .inl (F1 4)) := by rw [q_81]; exact (fu_ne (by omega)).trans h_51
          have h_88 : ct_80 245 = .inl (fcI g, 6, .inl (F1 5)) := by rw [q_81]; exact (fu_ne (by omega)).trans h_52
          have h_89 : ct_80 246 = .inl (fcI g, 36, .inl (upd (F1 6) (6 * i + (wd (nB σ) q) i) (nI (cN (lkq σ i ((wd (nB σ) q) i)) (q + 1))))) := by rw [q_81]; exact (fu_ne (by omega)).trans h_53
          have h_90 : ct_80 247 = .inl (fcI g, 20, .inl (F1 7)) := by rw [q_81]; exact (fu_ne (by omega)).trans h_54
          have h_91 : ct_80 248 = .inl (fcI g, 20, .inl (F1 8)) := by rw [q_81]; exact (fu_ne (by omega)).trans h_55
          refine lv_aload_n hx hb dX8_takesIn_77 rfl (lv_at hl 1 rfl) ?_
          refine lv_iload_n hx hb dX8_takesIn_78 rfl (lv_at hl 2 rfl) ?_
          refine fs_put E hP hS (k := 239) 12 fc8 h_82 (by omega) (by decide) (wm wl_21 (i := 16) rfl) rfl rfl rfl rfl (Nat.le_of_ble_eq_true rfl) dX8_takesIn_79 (fun ct_92 H locs q_93 hP hS => ?_)
          have h_94 : ct_92 239 = .inr (8, [.ref (fa g 240), .ref (fa g 241), .int (z1 0), .ref (fa g 242), .ref (fa g 243), .ref (fa g 244), .int (z1 1), .ref (fa g 245), .int (z1 2), .ref (fa g 246), .ref (fa g 247), .ref (fa g 248), .int (nI i), .int (nI (cN (fun p => decide ((wd (nB σ) q) p = i)) (nB σ))), .int (z1 5), .int (z1 6), .int (z1 7), .int (z1 8), .int (z1 9)]) := by rw [q_93]; exact fu_eq _ _ _
          have h_95 : ct_92 240 = .inl (fcI g, 121, .inl (F1 0)) := by rw [q_93]; exact (fu_ne (by omega)).trans h_83
          have h_96 : ct_92 241 = .inl (fcI g, 726, .inl (F1 1)) := by rw [q_93]; exact (fu_ne (by omega)).trans h_84
          have h_97 : ct_92 242 = .inl (fcI g, 242, .inl (F1 2)) := by rw [q_93]; exact (fu_ne (by omega)).trans h_85
          have h_98 : ct_92 243 = .inl (fcI g, 2, .inl (F1 3)) := by rw [q_93]; exact (fu_ne (by omega)).trans h_86
          have h_99 : ct_92 244 = .inl (fcI g, 60, .inl (F1 4)) := by rw [q_93]; exact (fu_ne (by omega)).trans h_87
          have h_100 : ct_92 245 = .inl (fcI g, 6, .inl (F1 5)) := by rw [q_93]; exact (fu_ne (by omega)).trans h_88
          have h_101 : ct_92 246 = .inl (fcI g, 36, .inl (upd (F1 6) (6 * i + (wd (nB σ) q) i) (nI (cN (lkq σ i ((wd (nB σ) q) i)) (q + 1))))) := by rw [q_93]; exact (fu_ne (by omega)).trans h_89
          have h_102 : ct_92 247 = .inl (fcI g, 20, .inl (F1 7)) := by rw [q_93]; exact (fu_ne (by omega)).trans h_90
          have h_103 : ct_92 248 = .inl (fcI g, 20, .inl (F1 8)) := by rw [q_93]; exact (fu_ne (by omega)).trans h_91
          refine lv_iinc (v := (nI (i + 1))) (lv' := [(1, .int (nI (i + 1))), (2, .int (nI (cN (fun p => decide ((wd (nB σ) q) p = i)) (nB σ)))), (0, .ref (fa g 239))]) hx hb dX8_takesIn_82 hl (k := 2) rfl (nI_1 _) (by decide) rfl (fun ls hl => ?_)
          refine lv_goto (tgt := 12) hx hb dX8_takesIn_85 (by decide) ?_
          have MA9 : MA g ct_92 (mkz (z1 0) (z1 1) (z1 2) (nI i) (nI (cN (fun p => decide ((wd (nB σ) q) p = i)) (nB σ))) (z1 5) (z1 6) (z1 7) (z1 8) (z1 9)) (mkF (F1 0) (F1 1) (F1 2) (F1 3) (F1 4) (F1 5) (upd (F1 6) (6 * i + (wd (nB σ) q) i) (nI (cN (lkq σ i ((wd (nB σ) q) i)) (q + 1)))) (F1 7) (F1 8)) := ⟨h_94, h_95, h_96, h_97, h_98, h_99, h_100, h_101, h_102, h_103⟩
          have hms : mwP (nB σ) (wd (nB σ) q) (mwQ σ q) (i + 1) = (if (mwP (nB σ) (wd (nB σ) q) (mwQ σ q) i).2 < (cN (fun p => decide ((wd (nB σ) q) p = i)) (nB σ)) ∨ ((cN (fun p => decide ((wd (nB σ) q) p = i)) (nB σ)) = (mwP (nB σ) (wd (nB σ) q) (mwQ σ q) i).2 ∧ i < (mwP (nB σ) (wd (nB σ) q) (mwQ σ q) i).1) then (i, (cN (fun p => decide ((wd (nB σ) q) p = i)) (nB σ))) else (mwP (nB σ) (wd (nB σ) q) (mwQ σ q) i)) := rfl
          have hcc : (mwP (nB σ) (wd (nB σ) q) (mwQ σ q) i).2 < (cN (fun p => decide ((wd (nB σ) q) p = i)) (nB σ)) ∨ ((cN (fun p => decide ((wd (nB σ) q) p = i)) (nB σ)) = (mwP (nB σ) (wd (nB σ) q) (mwQ σ q) i).2 ∧ i < (mwP (nB σ) (wd (nB σ) q) (mwQ σ q) i).1) := Or.inr ⟨by omega, (hmw.lt (by omega) (by omega)).mp c_69⟩
          rw [if_pos hcc] at hms
          have hlk9 : ∀ p b, p < nB σ → b < 6 → upd (F1 6) (6 * i + (wd (nB σ) q) i) (nI (cN (lkq σ i ((wd (nB σ) q) i)) (q + 1))) (6 * p + b) = nI (cN (lkq σ p b) (if p < i + 1 then q + 1 else q)) := (fun p b hp hb => by
            have hwi := (wd_ok hn3 q) i (by omega)
            show upd (F1 6) (6 * i + (wd (nB σ) q) i) _ (6 * p + b) = _
            by_cases y : p = i
            · subst y
              rw [if_pos (by omega)]
              by_cases x : b = (wd (nB σ) q) p
              · subst x; exact upd_eq _ _ _
              · rw [upd_ne (by omega), cN_f (lk_miss (Ne.symm x))]
                have e0 := hI.2.2.2.2.2.2.1 p b hp hb
                rw [if_neg (by omega)] at e0; exact e0
            · rw [upd_ne (by omega)]
              have e0 := hI.2.2.2.2.2.2.1 p b hp hb
              by_cases x : p < i
              · rw [if_pos x] at e0; rw [if_pos (by omega)]; exact e0
              · rw [if_neg x] at e0; rw [if_neg (by omega)]; exact e0)
          exact ih (i + 1) _ _ ls _ (by (try dsimp only); omega) ⟨lv_sub hl [2, 0] rfl, ⟨_, _, MA9, ⟨by omega, hI.2.1, hI.2.2.1, hI.2.2.2.1, hI.2.2.2.2.1, hI.2.2.2.2.2.1, hlk9, (by rw [hms]; exact hmw.yes hcc)⟩, (show fSame 239 249 _ _ from fSame.tr hsm (fSame.ap (fSame.ap (fSame.ap fSame.rf q_45 (by omega) (by omega)) q_81 (by omega) (by omega)) q_93 (by omega) (by omega)))⟩⟩ hP hS
