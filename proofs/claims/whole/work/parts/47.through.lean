abbrev KK (z : Nat → Int32) (F : Nat → Nat → Int32) (z1 : Nat → Int32) (F1 : Nat → Nat → Int32) : Prop := (z1 0 = z 0 ∧ z1 1 = z 1) ∧ F1 0 = F 0 ∧ F1 1 = F 1 ∧ F1 2 = F 2 ∧ F1 3 = F 3 ∧ F1 4 = F 4
theorem KK.tr {z z1 z2 : Nat → Int32} {F F1 F2 : Nat → Nat → Int32} (a : KK z F z1 F1) (b : KK z1 F1 z2 F2) : KK z F z2 F2 :=
  ⟨⟨b.1.1.trans a.1.1, b.1.2.trans a.1.2⟩, b.2.1.trans a.2.1, b.2.2.1.trans a.2.2.1, b.2.2.2.1.trans a.2.2.2.1, b.2.2.2.2.1.trans a.2.2.2.2.1, b.2.2.2.2.2.trans a.2.2.2.2.2⟩
theorem KK.sr {σ : Nat → Int32} {z z1 : Nat → Int32} {F F1 : Nat → Nat → Int32} (a : KK z F z1 F1) (h : SR σ F) : SR σ F1 := fun i hi => by rw [a.2.1]; exact h i hi
theorem MW.b {s : Nat × Nat} {a b : Int32} (h : MW s a b) : b = nI s.2 := by
  by_cases z : s.2 = 0
  · rw [z]; exact (h.1 z).2.2
  · exact (h.2 z).2
theorem MW.lt {s : Nat × Nat} {a b : Int32} {i : Nat} (h : MW s a b) (hs : s.1 < 100) (hi : i < 100) : ¬ a ≤ nI i ↔ i < s.1 := by
  by_cases z : s.2 = 0
  · obtain ⟨a1, a2, -⟩ := h.1 z
    have e : a ≤ nI i := by rw [a2, Int32.le_iff_toInt_le, nI_toInt (by omega)]; have : (-6 : Int32).toInt = -6 := rfl
                            omega
    exact ⟨fun y => absurd e y, fun y => absurd y (by omega)⟩
  · rw [(h.2 z).1, nI_leI (by omega) (by omega)]; omega
theorem MW.yes {s : Nat × Nat} {a b : Int32} {i c : Nat} (h : MW s a b) (hc : s.2 < c ∨ (c = s.2 ∧ i < s.1)) : MW (i, c) (nI i) (nI c) := by
  refine ⟨fun z => ?_, fun _ => ⟨rfl, rfl⟩⟩
  exfalso
  have z2 : c = 0 := z
  rcases hc with y | y
  · omega
  · have := (h.1 (by omega)).1; omega
theorem CNT.skip {σ : Nat → Int32} {q : Nat} {z : Nat → Int32} {F : Nat → Nat → Int32} (H : CNT σ q z F) (hok : okq σ q = false) (hon : ∀ r, r < nT σ → onq σ r q = false) : CNT σ (q + 1) z F := by
  obtain ⟨a, b, c, d, e⟩ := H
  refine ⟨by rw [cN_f hok]; exact a, fun p b0 hp hb => ?_, fun r hr => ?_, fun r hr => by rw [cN_f (hon r hr)]; exact d r hr, ?_⟩
  · rw [cN_f (by unfold lkq; rw [hok]; rfl)]; exact b p b0 hp hb
  · rw [cN_f (by unfold hdq; rw [hok]; rfl)]; exact c r hr
  · have e2 : mwQ σ (q + 1) = mwQ σ q := by
      show (if okq σ q = true then _ else _) = _
      rw [hok]; rfl
    rw [e2]; exact e
theorem CNT.one {σ : Nat → Int32} {q r : Nat} {z : Nat → Int32} {F F1 : Nat → Nat → Int32} (H : CNT σ q z F) (hok : okq σ q = false) (h1 : onq σ r q = true) (hon : ∀ r2, r2 < nT σ → r2 ≠ r → onq σ r2 q = false) (h6 : F1 6 = F 6) (h7 : F1 7 = F 7) (h8 : F1 8 = upd (F 8) r (nI (cN (onq σ r) (q + 1)))) : CNT σ (q + 1) z F1 := by
  obtain ⟨a, b, c, d, e⟩ := H
  refine ⟨by rw [cN_f hok]; exact a, fun p b0 hp hb => ?_, fun r hr => ?_, fun r2 hr => ?_, ?_⟩
  · rw [cN_f (by unfold lkq; rw [hok]; rfl), h6]; exact b p b0 hp hb
  · rw [cN_f (by unfold hdq; rw [hok]; rfl), h7]; exact c r hr
  · rw [h8]
    by_cases y : r2 = r
    · subst y; exact upd_eq _ _ _
    · rw [upd_ne y, cN_f (hon r2 hr y)]; exact d r2 hr
  · have e2 : mwQ σ (q + 1) = mwQ σ q := by
      show (if okq σ q = true then _ else _) = _
      rw [hok]; rfl
    rw [e2]; exact e
theorem lk_hit {σ : Nat → Int32} {q p : Nat} (hok : okq σ q = true) : lkq σ p (wd (nB σ) q p) q = true := by unfold lkq; rw [hok, decide_eq_true rfl]; rfl
theorem lk_miss {σ : Nat → Int32} {q p b : Nat} (h : wd (nB σ) q p ≠ b) : lkq σ p b q = false := by unfold lkq; rw [decide_eq_false h, Bool.and_false]
theorem hd_hit {σ : Nat → Int32} {q r : Nat} (hok : okq σ q = true) : hdq σ r q = hdr σ (wd (nB σ) q) r := by unfold hdq; rw [hok]; rfl

set_option maxRecDepth 100000 in
set_option maxHeartbeats 4000000 in
theorem c_X8_clear (l : Launch) (g : fG) (N : Nat) (ct : Nat → va_E) (z : Nat → Int32) (F : Nat → Nat → Int32) (σ : Nat → Int32) (hN : 249 ≤ N) (hG : Good σ) (hM : MA g ct z F) (hT : SR σ F) : Met l yX8_clear (wsU yX8_clear cX8_clear 2 none) rX8_clear (fPre g N ct [.ref (fa g 239)]) (fQv g N (fun ct1 => ∃ (z1 : Nat → Int32) (F1 : Nat → Nat → Int32), MA g ct1 z1 F1 ∧ KK z F z1 F1 ∧ CNT σ 0 z1 F1 ∧ fSame 239 249 ct ct1)) 0 0 (fB g) := by
  refine fs_start (own := RX8) (lv0 := [(0, .ref (fa g 239))]) (by decide) rfl (Nat.le_of_ble_eq_true rfl) rfl ?_
  intro p e s m args below meth c ls E hr hlk hnm hP hl hS
  have hx := E.1.1
  have hb := E.1.2.1
  have m_1o : ct 239 = .inr (8, [.ref (fa g 240), .ref (fa g 241), .int (z 0), .ref (fa g 242), .ref (fa g 243), .ref (fa g 244), .int (z 1), .ref (fa g 245), .int (z 2), .ref (fa g 246), .ref (fa g 247), .ref (fa g 248), .int (z 3), .int (z 4), .int (z 5), .int (z 6), .int (z 7), .int (z 8), .int (z 9)]) := (hM).1
  have m_1r0 : ct 240 = .inl (fcI g, 121, .inl (F 0)) := (hM).2.1
  have m_1r1 : ct 241 = .inl (fcI g, 726, .inl (F 1)) := (hM).2.2.1
  have m_1r2 : ct 242 = .inl (fcI g, 242, .inl (F 2)) := (hM).2.2.2.1
  have m_1r3 : ct 243 = .inl (fcI g, 2, .inl (F 3)) := (hM).2.2.2.2.1
  have m_1r4 : ct 244 = .inl (fcI g, 60, .inl (F 4)) := (hM).2.2.2.2.2.1
  have m_1r5 : ct 245 = .inl (fcI g, 6, .inl (F 5)) := (hM).2.2.2.2.2.2.1
  have m_1r6 : ct 246 = .inl (fcI g, 36, .inl (F 6)) := (hM).2.2.2.2.2.2.2.1
  have m_1r7 : ct 247 = .inl (fcI g, 20, .inl (F 7)) := (hM).2.2.2.2.2.2.2.2.1
  have m_1r8 : ct 248 = .inl (fcI g, 20, .inl (F 8)) := (hM).2.2.2.2.2.2.2.2.2
  have hn3 := hG.n3
  have hn6 := hG.n6
  have hk20 := hG.k
  refine lv_aload_n hx hb dX8_clear_0 rfl (lv_at hl 0 rfl) ?_
  refine lv_iconst (v := (nI 0)) hx hb dX8_clear_1 (by decide) ?_
  refine fs_put E hP hS (k := 239) 8 fc8 m_1o (by omega) (by decide) (wm wl_21 (i := 7) rfl) rfl rfl rfl rfl (Nat.le_of_ble_eq_true rfl) dX8_clear_2 (fun ct_2 H locs q_3 hP hS => ?_)
  have h_4 : ct_2 239 = .inr (8, [.ref (fa g 240), .ref (fa g 241), .int (z 0), .ref (fa g 242), .ref (fa g 243), .ref (fa g 244), .int (z 1), .ref (fa g 245), .int (nI 0), .ref (fa g 246), .ref (fa g 247), .ref (fa g 248), .int (z 3), .int (z 4), .int (z 5), .int (z 6), .int (z 7), .int (z 8), .int (z 9)]) := by rw [q_3]; exact fu_eq _ _ _
  have h_5 : ct_2 240 = .inl (fcI g, 121, .inl (F 0)) := by rw [q_3]; exact (fu_ne (by omega)).trans m_1r0
  have h_6 : ct_2 241 = .inl (fcI g, 726, .inl (F 1)) := by rw [q_3]; exact (fu_ne (by omega)).trans m_1r1
  have h_7 : ct_2 242 = .inl (fcI g, 242, .inl (F 2)) := by rw [q_3]; exact (fu_ne (by omega)).trans m_1r2
  have h_8 : ct_2 243 = .inl (fcI g, 2, .inl (F 3)) := by rw [q_3]; exact (fu_ne (by omega)).trans m_1r3
  have h_9 : ct_2 244 = .inl (fcI g, 60, .inl (F 4)) := by rw [q_3]; exact (fu_ne (by omega)).trans m_1r4
  have h_10 : ct_2 245 = .inl (fcI g, 6, .inl (F 5)) := by rw [q_3]; exact (fu_ne (by omega)).trans m_1r5
  have h_11 : ct_2 246 = .inl (fcI g, 36, .inl (F 6)) := by rw [q_3]; exact (fu_ne (by omega)).trans m_1r6
  have h_12 : ct_2 247 = .inl (fcI g, 20, .inl (F 7)) := by rw [q_3]; exact (fu_ne (by omega)).trans m_1r7
  have h_13 : ct_2 248 = .inl (fcI g, 20, .inl (F 8)) := by rw [q_3]; exact (fu_ne (by omega)).trans m_1r8
  refine lv_aload_n hx hb dX8_clear_5 rfl (lv_at hl 0 rfl) ?_
  refine lv_bipush (v := (-6)) hx hb dX8_clear_6 (by decide) ?_
  refine fs_put E hP hS (k := 239) 12 fc8 h_4 (by omega) (by decide) (wm wl_21 (i := 16) rfl) rfl rfl rfl rfl (Nat.le_of_ble_eq_true rfl) dX8_clear_8 (fun ct_14 H locs q_15 hP hS => ?_)
  have h_16 : ct_14 239 = .inr (8, [.ref (fa g 240), .ref (fa g 241), .int (z 0), .ref (fa g 242), .ref (fa g 243), .ref (fa g 244), .int (z 1), .ref (fa g 245), .int (nI 0), .ref (fa g 246), .ref (fa g 247), .ref (fa g 248), .int (-6), .int (z 4), .int (z 5), .int (z 6), .int (z 7), .int (z 8), .int (z 9)]) := by rw [q_15]; exact fu_eq _ _ _
  have h_17 : ct_14 240 = .inl (fcI g, 121, .inl (F 0)) := by rw [q_15]; exact (fu_ne (by omega)).trans h_5
  have h_18 : ct_14 241 = .inl (fcI g, 726, .inl (F 1)) := by rw [q_15]; exact (fu_ne (by omega)).trans h_6
  have h_19 : ct_14 242 = .inl (fcI g, 242, .inl (F 2)) := by rw [q_15]; exact (fu_ne (by omega)).trans h_7
  have h_20 : ct_14 243 = .inl (fcI g, 2, .inl (F 3)) := by rw [q_15]; exact (fu_ne (by omega)).trans h_8
  have h_21 : ct_14 244 = .inl (fcI g, 60, .inl (F 4)) := by rw [q_15]; exact (fu_ne (by omega)).trans h_9
  have h_22 : ct_14 245 = .inl (fcI g, 6, .inl (F 5)) := by rw [q_15]; exact (fu_ne (by omega)).trans h_10
  have h_23 : ct_14 246 = .inl (fcI g, 36, .inl (F 6)) := by rw [q_15]; exact (fu_ne (by omega)).trans h_11
  have h_24 : ct_14 247 = .inl (fcI g, 20, .inl (F 7)) := by rw [q_15]; exact (fu_ne (by omega)).trans h_12
  have h_25 : ct_14 248 = .inl (fcI g, 20, .inl (F 8)) := by rw [q_15]; exact (fu_ne (by omega)).trans h_13
  refine lv_aload_n hx hb dX8_clear_11 rfl (lv_at hl 0 rfl) ?_
  refine lv_iconst (v := (nI 0)) hx hb dX8_clear_12 (by decide) ?_
  refine fs_put E hP hS (k := 239) 13 fc8 h_16 (by omega) (by decide) (wm wl_21 (i := 17) rfl) rfl rfl rfl rfl (Nat.le_of_ble_eq_true rfl) dX8_clear_13 (fun ct_26 H locs q_27 hP hS => ?_)
  have h_28 : ct_26 239 = .inr (8, [.ref (fa g 240), .ref (fa g 241), .int (z 0), .ref (fa g 242), .ref (fa g 243), .ref (fa g 244), .int (z 1), .ref (fa g 245), .int (nI 0), .ref (fa g 246), .ref (fa g 247), .ref (fa g 248), .int (-6), .int (nI 0), .int (z 5), .int (z 6), .int (z 7), .int (z 8), .int (z 9)]) := by rw [q_27]; exact fu_eq _ _ _
  have h_29 : ct_26 240 = .inl (fcI g, 121, .inl (F 0)) := by rw [q_27]; exact (fu_ne (by omega)).trans h_17
  have h_30 : ct_26 241 = .inl (fcI g, 726, .inl (F 1)) := by rw [q_27]; exact (fu_ne (by omega)).trans h_18
  have h_31 : ct_26 242 = .inl (fcI g, 242, .inl (F 2)) := by rw [q_27]; exact (fu_ne (by omega)).trans h_19
  have h_32 : ct_26 243 = .inl (fcI g, 2, .inl (F 3)) := by rw [q_27]; exact (fu_ne (by omega)).trans h_20
  have h_33 : ct_26 244 = .inl (fcI g, 60, .inl (F 4)) := by rw [q_27]; exact (fu_ne (by omega)).trans h_21
  have h_34 : ct_26 245 = .inl (fcI g, 6, .inl (F 5)) := by rw [q_27]; exact (fu_ne (by omega)).trans h_22
  have h_35 : ct_26 246 = .inl (fcI g, 36, .inl (F 6)) := by rw [q_27]; exact (fu_ne (by omega)).trans h_23
  have h_36 : ct_26 247 = .inl (fcI g, 20, .inl (F 7)) := by rw [q_27]; exact (fu_ne (by omega)).trans h_24
  have h_37 : ct_26 248 = .inl (fcI g, 20, .inl (F 8)) := by rw [q_27]; exact (fu_ne (by omega)).trans h_25
  refine lv_iconst (v := (nI 0)) hx hb dX8_clear_16 (by decide) ?_
  refine lv_istore_n (lv' := [(1, .int (nI 0)), (0, .ref (fa g 239))]) hx hb dX8_clear_17 rfl hl (by decide) rfl (fun ls hl => ?_)
  have MA_38 : MA g ct_26 (mkz (z 0) (z 1) (nI 0) (-6) (nI 0) (z 5) (z 6) (z 7) (z 8) (z 9)) (mkF (F 0) (F 1) (F 2) (F 3) (F 4) (F 5) (F 6) (F 7) (F 8)) := ⟨h_28, h_29, h_30, h_31, h_32, h_33, h_34, h_35, h_36, h_37⟩
  refine fs_ind (g := g) (N := N) (St := Nat) (fun (i : Nat) (ct_39 : Nat → va_E) (ls : Array Slot) => lv_has ls 2 [(0, .ref (fa g 239)), (1, .int (nI i))] ∧ ∃ (z1 : Nat → Int32) (F1 : Nat → Nat → Int32), MA g ct_39 z1 F1 ∧ (i ≤ 36 ∧ KK z F z1 F1 ∧ (z1 2 = nI 0 ∧ z1 3 = -6 ∧ z1 4 = nI 0) ∧ ∀ p, p < i → F1 6 p = nI 0) ∧ fSame 239 249 ct ct_39) (fun i => 36 - i) ?_ 0 _ _ ls _ ⟨lv_sub hl [1, 0] rfl, ⟨(mkz (z 0) (z 1) (nI 0) (-6) (nI 0) (z 5) (z 6) (z 7) (z 8) (z 9)), (mkF (F 0) (F 1) (F 2) (F 3) (F 4) (F 5) (F 6) (F 7) (F 8)), MA_38, ⟨Nat.zero_le _, ⟨⟨rfl, rfl⟩, rfl, rfl, rfl, rfl, rfl⟩, ⟨rfl, rfl, rfl⟩, fun p hp => absurd hp (by omega)⟩, (show fSame 239 249 _ _ from (fSame.ap (fSame.ap (fSame.ap fSame.rf q_3 (by omega) (by omega)) q_15 (by omega) (by omega)) q_27 (by omega) (by omega)))⟩⟩ hP hS
  clear hl hP hS
  intro st ct_39 H ls locs hI hP hS ih
  obtain ⟨i, rfl⟩ : ∃ z, z = st := ⟨_, rfl⟩
  obtain ⟨hl, z1, F1, hM1, hI, hsm⟩ := hI
  have m_40o : ct_39 239 = .inr (8, [.ref (fa g 240), .ref (fa g 241), .int (z1 0), .ref (fa g 242), .ref (fa g 243), .ref (fa g 244), .int (z1 1), .ref (fa g 245), .int (z1 2), .ref (fa g 246), .ref (fa g 247), .ref (fa g 248), .int (z1 3), .int (z1 4), .int (z1 5), .int (z1 6), .int (z1 7), .int (z1 8), .int (z1 9)]) := (hM1).1
  have m_40r0 : ct_39 240 = .inl (fcI g, 121, .inl (F1 0)) := (hM1).2.1
  have m_40r1 : ct_39 241 = .inl (fcI g, 726, .inl (F1 1)) := (hM1).2.2.1
  have m_40r2 : ct_39 242 = .inl (fcI g, 242, .inl (F1 2)) := (hM1).2.2.2.1
  have m_40r3 : ct_39 243 = .inl (fcI g, 2, .inl (F1 3)) := (hM1).2.2.2.2.1
  have m_40r4 : ct_39 244 = .inl (fcI g, 60, .inl (F1 4)) := (hM1).2.2.2.2.2.1
  have m_40r5 : ct_39 245 = .inl (fcI g, 6, .inl (F1 5)) := (hM1).2.2.2.2.2.2.1
  have m_40r6 : ct_39 246 = .inl (fcI g, 36, .inl (F1 6)) := (hM1).2.2.2.2.2.2.2.1
  have m_40r7 : ct_39 247 = .inl (fcI g, 20, .inl (F1 7)) := (hM1).2.2.2.2.2.2.2.2.1
  have m_40r8 : ct_39 248 = .inl (fcI g, 20, .inl (F1 8)) := (hM1).2.2.2.2.2.2.2.2.2
  have hI1 := hI.1
  refine lv_iload_n hx hb dX8_clear_18 rfl (lv_at hl 1 rfl) ?_
  refine lv_bipush (v := (nI 36)) hx hb dX8_clear_19 (by decide) ?_
  refine lv_icmp_ge (tgt := 37) hx hb dX8_clear_21 (by decide) (fun c_21 => ?_) (fun c_21 => ?_)
  · rw [nI_leI (by omega) (by omega)] at c_21
    have hJ := hI.2
    have hJ6 : ∀ p, p < 36 → F1 6 p = nI 0 := fun p hp => hI.2.2.2 p (by omega)
    have hsm0 := hsm
    clear ih hI
    refine lv_iconst (v := (nI 0)) hx hb dX8_clear_37 (by decide) ?_
    refine lv_istore_n (lv' := [(1, .int (nI 0)), (0, .ref (fa g 239))]) hx hb dX8_clear_38 rfl hl (by decide) rfl (fun ls hl => ?_)
    have MA_41 : MA g ct_39 (mkz (z1 0) (z1 1) (z1 2) (z1 3) (z1 4) (z1 5) (z1 6) (z1 7) (z1 8) (z1 9)) (mkF (F1 0) (F1 1) (F1 2) (F1 3) (F1 4) (F1 5) (F1 6) (F1 7) (F1 8)) := ⟨m_40o, m_40r0, m_40r1, m_40r2, m_40r3, m_40r4, m_40r5, m_40r6, m_40r7, m_40r8⟩
    refine fs_ind (g := g) (N := N) (St := Nat) (fun (j : Nat) (ct_42 : Nat → va_E) (ls : Array Slot) => lv_has ls 2 [(0, .ref (fa g 239)), (1, .int (nI j))] ∧ ∃ (z1 : Nat → Int32) (F1 : Nat → Nat → Int32), MA g ct_42 z1 F1 ∧ (KK z F z1 F1 ∧ (z1 2 = nI 0 ∧ z1 3 = -6 ∧ z1 4 = nI 0) ∧ (∀ p, p < 36 → F1 6 p = nI 0) ∧ (∀ r, r < j → F1 7 r = nI 0 ∧ F1 8 r = nI 0) ∧ j ≤ 20) ∧ fSame 239 249 ct ct_42) (fun j => 20 - j) ?_ 0 _ _ ls _ ⟨lv_sub hl [1, 0] rfl, ⟨(mkz (z1 0) (z1 1) (z1 2) (z1 3) (z1 4) (z1 5) (z1 6) (z1 7) (z1 8) (z1 9)), (mkF (F1 0) (F1 1) (F1 2) (F1 3) (F1 4) (F1 5) (F1 6) (F1 7) (F1 8)), MA_41, ⟨hJ.1, hJ.2.1, hJ6, fun r hr => absurd hr (by omega), Nat.zero_le _⟩, (show fSame 239 249 _ _ from fSame.tr hsm fSame.rf)⟩⟩ hP hS
    clear hl hP hS
    intro st ct_42 H ls locs hI hP hS ih
    obtain ⟨j, rfl⟩ : ∃ z, z = st := ⟨_, rfl⟩
    obtain ⟨hl, z1, F1, hM1, hI, hsm⟩ := hI
    have m_43o : ct_42 239 = .inr (8, [.ref (fa g 240), .ref (fa g 241), .int (z1 0), .ref (fa g 242), .ref (fa g 243), .ref (fa g 244), .int (z1 1), .ref (fa g 245), .int (z1 2), .ref (fa g 246), .ref (fa g 247), .ref (fa g 248), .int (z1 3), .int (z1 4), .int (z1 5), .int (z1 6), .int (z1 7), .int (z1 8), .int (z1 9)]) := (hM1).1
    have m_43r0 : ct_42 240 = .inl (fcI g, 121, .inl (F1 0)) := (hM1).2.1
    have m_43r1 : ct_42 241 = .inl (fcI g, 726, .inl (F1 1)) := (hM1).2.2.1
    have m_43r2 : ct_42 242 = .inl (fcI g, 242, .inl (F1 2)) := (hM1).2.2.2.1
    have m_43r3 : ct_42 243 = .inl (fcI g, 2, .inl (F1 3)) := (hM1).2.2.2.2.1
    have m_43r4 : ct_42 244 = .inl (fcI g, 60, .inl (F1 4)) := (hM1).2.2.2.2.2.1
    have m_43r5 : ct_42 245 = .inl (fcI g, 6, .inl (F1 5)) := (hM1).2.2.2.2.2.2.1
    have m_43r6 : ct_42 246 = .inl (fcI g, 36, .inl (F1 6)) := (hM1).2.2.2.2.2.2.2.1
    have m_43r7 : ct_42 247 = .inl (fcI g, 20, .inl (F1 7)) := (hM1).2.2.2.2.2.2.2.2.1
    have m_43r8 : ct_42 248 = .inl (fcI g, 20, .inl (F1 8)) := (hM1).2.2.2.2.2.2.2.2.2
    have hI1 := hI.2.2.2.2
    replace hI := (⟨hI.1, hI.2.1, hI.2.2.1, hI.2.2.2.1⟩ : _ ∧ _ ∧ _ ∧ _)
    refine lv_iload_n hx hb dX8_clear_39 rfl (lv_at hl 1 rfl) ?_
    refine lv_bipush (v := (nI 20)) hx hb dX8_clear_40 (by decide) ?_
    refine lv_icmp_ge (tgt := 65) hx hb dX8_clear_42 (by decide) (fun c_42 => ?_) (fun c_42 => ?_)
    · rw [nI_leI (by omega) (by omega)] at c_42
      have MA8 : MA g ct_42 (mkz (z1 0) (z1 1) (z1 2) (z1 3) (z1 4) (z1 5) (z1 6) (z1 7) (z1 8) (z1 9)) (mkF (F1 0) (F1 1) (F1 2) (F1 3) (F1 4) (F1 5) (F1 6) (F1 7) (F1 8)) := ⟨m_43o, m_43r0, m_43r1, m_43r2, m_43r3, m_43r4, m_43r5, m_43r6, m_43r7, m_43r8⟩
      refine fs_vret E hr hlk hP hS dX8_clear_65 ?_
      exact ⟨(mkz (z1 0) (z1 1) (z1 2) (z1 3) (z1 4) (z1 5) (z1 6) (z1 7) (z1 8) (z1 9)), (mkF (F1 0) (F1 1) (F1 2) (F1 3) (F1 4) (F1 5) (F1 6) (F1 7) (F1 8)), MA8, hI.1, ⟨hI.2.1.1, fun p b hp hb => (hI.2.2.1 _ (by omega)), fun r hr => (hI.2.2.2 r (by omega)).1, fun r hr => (hI.2.2.2 r (by omega)).2, ⟨fun _ => ⟨rfl, hI.2.1.2.1, hI.2.1.2.2⟩, fun y => absurd rfl y⟩⟩, (show fSame 239 249 _ _ from fSame.tr hsm fSame.rf)⟩
    · rw [nI_leI (by omega) (by omega)] at c_42
      refine lv_aload_n hx hb dX8_clear_45 rfl (lv_at hl 0 rfl) ?_
      refine fs_get E hP (k := 239) (v := .ref (fa g 247)) 10 fc8 m_43o (by omega) (by decide) (wm wl_5 (i := 7) rfl) rfl dX8_clear_46 ?_
      refine lv_iload_n hx hb dX8_clear_49 rfl (lv_at hl 1 rfl) ?_
      refine lv_iconst (v := (nI 0)) hx hb dX8_clear_50 (by decide) ?_
      refine fs_iast E hP hS (k := 247) m_43r7 (by omega) (vp_in_nI (by omega) (by omega)) dX8_clear_51 (fun ct_44 H locs q_45 hP hS => ?_)
      rw [nI_clamp (by omega)] at q_45
      have h_46 : ct_44 239 = .inr (8, [.ref (fa g 240), .ref (fa g 241), .int (z1 0), .ref (fa g 242), .ref (fa g 243), .ref (fa g 244), .int (z1 1), .ref (fa g 245), .int (z1 2), .ref (fa g 246), .ref (fa g 247), .ref (fa g 248), .int (z1 3), .int (z1 4), .int (z1 5), .int (z1 6), .int (z1 7), .int (z1 8), .int (z1 9)]) := by rw [q_45]; exact (fu_ne (by omega)).trans m_43o
      have h_47 : ct_44 240 = .inl (fcI g, 121, .inl (F1 0)) := by rw [q_45]; exact (fu_ne (by omega)).trans m_43r0
      have h_48 : ct_44 241 = .inl (fcI g, 726, .inl (F1 1)) := by rw [q_45]; exact (fu_ne (by omega)).trans m_43r1
      have h_49 : ct_44 242 = .inl (fcI g, 242, .inl (F1 2)) := by rw [q_45]; exact (fu_ne (by omega)).trans m_43r2
      have h_50 : ct_44 243 = .inl (fcI g, 2, .inl (F1 3)) := by rw [q_45]; exact (fu_ne (by omega)).trans m_43r3
      have h_51 : ct_44 244 = .inl (fcI g, 60, .inl (F1 4)) := by rw [q_45]; exact (fu_ne (by omega)).trans m_43r4
      have h_52 : ct_44 245 = .inl (fcI g, 6, .inl (F1 5)) := by rw [q_45]; exact (fu_ne (by omega)).trans m_43r5
      have h_53 : ct_44 246 = .inl (fcI g, 36, .inl (F1 6)) := by rw [q_45]; exact (fu_ne (by omega)).trans m_43r6
      have h_54 : ct_44 247 = .inl (fcI g, 20, .inl (upd (F1 7) j (nI 0))) := by rw [q_45]; exact fu_eq _ _ _
      have h_55 : ct_44 248 = .inl (fcI g, 20, .inl (F1 8)) := by rw [q_45]; exact (fu_ne (by omega)).trans m_43r8
      refine lv_aload_n hx hb dX8_clear_52 rfl (lv_at hl 0 rfl) ?_
      refine fs_get E hP (k := 239) (v := .ref (fa g 248)) 11 fc8 h_46 (by omega) (by decide) (wm wl_5 (i := 8) rfl) rfl dX8_clear_53 ?_
      refine lv_iload_n hx hb dX8_clear_56 rfl (lv_at hl 1 rfl) ?_
      refine lv_iconst (v := (nI 0)) hx hb dX8_clear_57 (by decide) ?_
      refine fs_iast E hP hS (k := 248) h_55 (by omega) (vp_in_nI (by omega) (by omega)) dX8_clear_58 (fun ct_56 H locs q_57 hP hS => ?_)
      rw [nI_clamp (by omega)] at q_57
      have h_58 : ct_56 239 = .inr (8, [.ref (fa g 240), .ref (fa g 241), .int (z1 0), .ref (fa g 242), .ref (fa g 243), .ref (fa g 244), .int (z1 1), .ref (fa g 245), .int (z1 2), .ref (fa g 246), .ref (fa g 247), .ref (fa g 248), .int (z1 3), .int (z1 4), .int (z1 5), .int (z1 6), .int (z1 7), .int (z1 8), .int (z1 9)]) := by rw [q_57]; exact (fu_ne (by omega)).trans h_46
      have h_59 : ct_56 240 = .inl (fcI g, 121, .inl (F1 0)) := by rw [q_57]; exact (fu_ne (by omega)).trans h_47
      have h_60 : ct_56 241 = .inl (fcI g, 726, .inl (F1 1)) := by rw [q_57]; exact (fu_ne (by omega)).trans h_48
      have h_61 : ct_56 242 = .inl (fcI g, 242, .inl (F1 2)) := by rw [q_57]; exact (fu_ne (by omega)).trans h_49
      have h_62 : ct_56 243 = .inl (fcI g, 2, .inl (F1 3)) := by rw [q_57]; exact (fu_ne (by omega)).trans h_50
      have h_63 : ct_56 244 = .inl (fcI g, 60, .inl (F1 4)) := by rw [q_57]; exact (fu_ne (by omega)).trans h_51
      have h_64 : ct_56 245 = .inl (fcI g, 6, .inl (F1 5)) := by rw [q_57]; exact (fu_ne (by omega)).trans h_52
      have h_65 : ct_56 246 = .inl (fcI g, 36, .inl (F1 6)) := by rw [q_57]; exact (fu_ne (by omega)).trans h_53
      have h_66 : ct_56 247 = .inl (fcI g, 20, .inl (upd (F1 7) j (nI 0))) := by rw [q_57]; exact (fu_ne (by omega)).trans h_54
      have h_67 : ct_56 248 = .inl (fcI g, 20, .inl (upd (F1 8) j (nI 0))) := by rw [q_57]; exact fu_eq _ _ _
      refine lv_iinc (v := (nI (j + 1))) (lv' := [(1, .int (nI (j + 1))), (0, .ref (fa g 239))]) hx hb dX8_clear_59 hl (k := 1) rfl (nI_1 _) (by decide) rfl (fun ls hl => ?_)
      refine lv_goto (tgt := 39) hx hb dX8_clear_62 (by decide) ?_
      have MA9 : MA g ct_56 (mkz (z1 0) (z1 1) (z1 2) (z1 3) (z1 4) (z1 5) (z1 6) (z1 7) (z1 8) (z1 9)) (mkF (F1 0) (F1 1) (F1 2) (F1 3) (F1 4) (F1 5) (F1 6) (upd (F1 7) j (nI 0)) (upd (F1 8) j (nI 0))) := ⟨h_58, h_59, h_60, h_61, h_62, h_63, h_64, h_65, h_66, h_67⟩
      exact ih (j + 1) _ _ ls _ (by (try dsimp only); omega) ⟨lv_sub hl [1, 0] rfl, ⟨_, _, MA9, ⟨hI.1, hI.2.1, hI.2.2.1, fun r hr => if y : r = j then (by subst y; exact ⟨upd_eq _ _ _, upd_eq _ _ _⟩) else ⟨(upd_ne y).trans (hI.2.2.2 r (by omega)).1, (upd_ne y).trans (hI.2.2.2 r (by omega)).2⟩, by omega⟩, (show fSame 239 249 _ _ from fSame.tr hsm (fSame.ap (fSame.ap fSame.rf q_45 (by omega) (by omega)) q_57 (by omega) (by omega)))⟩⟩ hP hS
  · rw [nI_leI (by omega) (by omega)] at c_21
    refine lv_aload_n hx hb dX8_clear_24 rfl (lv_at hl 0 rfl) ?_
    refine fs_get E hP (k := 239) (v := .ref (fa g 246)) 9 fc8 m_40o (by omega) (by decide) (wm wl_5 (i := 6) rfl) rfl dX8_clear_25 ?_
    refine lv_iload_n hx hb dX8_clear_28 rfl (lv_at hl 1 rfl) ?_
    refine lv_iconst (v := (nI 0)) hx hb dX8_clear_29 (by decide) ?_
    refine fs_iast E hP hS (k := 246) m_40r6 (by omega) (vp_in_nI (by omega) (by omega)) dX8_clear_30 (fun ct_68 H locs q_69 hP hS => ?_)
    rw [nI_clamp (by omega)] at q_69
    have h_70 : ct_68 239 = .inr (8, [.ref (fa g 240), .ref (fa g 241), .int (z1 0), .ref (fa g 242), .ref (fa g 243), .ref (fa g 244), .int (z1 1), .ref (fa g 245), .int (z1 2), .ref (fa g 246), .ref (fa g 247), .ref (fa g 248), .int (z1 3), .int (z1 4), .int (z1 5), .int (z1 6), .int (z1 7), .int (z1 8), .int (z1 9)]) := by rw [q_69]; exact (fu_ne (by omega)).trans m_40o
    have h_71 : ct_68 240 = .inl (fcI g, 121, .inl (F1 0)) := by rw [q_69]; exact (fu_ne (by omega)).trans m_40r0
    have h_72 : ct_68 241 = .inl (fcI g, 726, .inl (F1 1)) := by rw [q_69]; exact (fu_ne (by omega)).trans m_40r1
    have h_73 : ct_68 242 = .inl (fcI g, 242, .inl (F1 2)) := by rw [q_69]; exact (fu_ne (by omega)).trans m_40r2
    have h_74 : ct_68 243 = .inl (fcI g, 2, .inl (F1 3)) := by rw [q_69]; exact (fu_ne (by omega)).trans m_40r3
    have h_75 : ct_68 244 = .inl (fcI g, 60, .inl (F1 4)) := by rw [q_69]; exact (fu_ne (by omega)).trans m_40r4
    have h_76 : ct_68 245 = .inl (fcI g, 6, .inl (F1 5)) := by rw [q_69]; exact (fu_ne (by omega)).trans m_40r5
    have h_77 : ct_68 246 = .inl (fcI g, 36, .inl (upd (F1 6) i (nI 0))) := by rw [q_69]; exact fu_eq _ _ _
    have h_78 : ct_68 247 = .inl (fcI g, 20, .inl (F1 7)) := by rw [q_69]; exact (fu_ne (by omega)).trans m_40r7
    have h_79 : ct_68 248 = .inl (fcI g, 20, .inl (F1 8)) := by rw [q_69]; exact (fu_ne (by omega)).trans m_40r8
    refine lv_iinc (v := (nI (i + 1))) (lv' := [(1, .int (nI (i + 1))), (0, .ref (fa g 239))]) hx hb dX8_clear_31 hl (k := 1) rfl (nI_1 _) (by decide) rfl (fun ls hl => ?_)
    refine lv_goto (tgt := 18) hx hb dX8_clear_34 (by decide) ?_
    have MA9 : MA g ct_68 (mkz (z1 0) (z1 1) (z1 2) (z1 3) (z1 4) (z1 5) (z1 6) (z1 7) (z1 8) (z1 9)) (mkF (F1 0) (F1 1) (F1 2) (F1 3) (F1 4) (F1 5) (upd (F1 6) i (nI 0)) (F1 7) (F1 8)) := ⟨h_70, h_71, h_72, h_73, h_74, h_75, h_76, h_77, h_78, h_79⟩
    exact ih (i + 1) _ _ ls _ (by (try dsimp only); omega) ⟨lv_sub hl [1, 0] rfl, ⟨_, _, MA9, ⟨by omega, hI.2.1, hI.2.2.1, fun p hp => if y : p = i then (by subst y; exact upd_eq _ _ _) else (upd_ne y).trans (hI.2.2.2 p (by omega))⟩, (show fSame 239 249 _ _ from fSame.tr hsm (fSame.ap fSame.rf q_69 (by omega) (by omega)))⟩⟩ hP hS
