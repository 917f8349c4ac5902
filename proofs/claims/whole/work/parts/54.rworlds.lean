theorem wr_ok {σ : Nat → Int32} {q : Nat} (hk : nT σ ≤ 20) : wrI σ (wd (nB σ) q) (nT σ) = -6 ↔ okq σ q = true := by
  rcases wrI_is σ (wd (nB σ) q) (nT σ) hk with ⟨h1, h2⟩ | ⟨r, hr, h1, h2, h3⟩ | ⟨h1, r, r2, hr, hr2, h4, h5, h6⟩
  · exact ⟨fun _ => ok_of h2, fun _ => h1⟩
  · exact ⟨fun y => absurd (h1.symm.trans y) (nI_ne6 (by omega)), fun y => by rw [okq_f hr h2] at y; cases y⟩
  · exact ⟨fun y => absurd (h1.symm.trans y) (nI_ne6 (by omega)), fun y => by rw [okq_f hr h5] at y; cases y⟩
theorem wlF_no {σ : Nat → Int32} {x : Int32} {p m : Nat} (h : ∀ q, q < m → okq σ q = true → ¬ nI (cN (okq σ) q) = x) : wlF σ x p m = -1 := by
  induction m with
  | zero => rfl
  | succ m ih =>
    have e : wlF σ x p (m + 1) = if okq σ m = true ∧ nI (cN (okq σ) m) = x then nI (wd (nB σ) m p) else wlF σ x p m := rfl
    rw [e, if_neg (fun y => h m (by omega) y.1 y.2)]; exact ih (fun q hq => h q (by omega))
theorem wlF_past {σ : Nat → Int32} {x0 p m : Nat} (hm : m ≤ 20000) (hx : x0 < 2147483648) (h : cN (okq σ) m ≤ x0) : wlF σ (nI x0) p m = -1 := by
  refine wlF_no (fun q hq hok y => ?_)
  have h1 := cN_le (okq σ) q
  rw [nI_eq (by omega) hx] at y
  have h2 : cN (okq σ) (q + 1) ≤ cN (okq σ) m := cN_mono _ hq
  rw [cN_t hok] at h2; omega
theorem wlF_neg {σ : Nat → Int32} {x : Int32} {p m : Nat} (hm : m ≤ 20000) (h : x.toInt < 0) : wlF σ x p m = -1 := by
  refine wlF_no (fun q hq hok y => ?_)
  have h1 := cN_le (okq σ) q
  rw [← y, nI_toInt (by omega)] at h; omega
theorem mwP_up {n : Nat} {w : Nat → Nat} {s : Nat × Nat} {p : Nat} : ∀ m, (mwP n w s p).2 ≤ (mwP n w s (p + m)).2 := by
  intro m
  induction m with
  | zero => exact Nat.le_refl _
  | succ m ih =>
    refine Nat.le_trans ih ?_
    show (mwP n w s (p + m)).2 ≤ (mwP n w s (p + m + 1)).2
    have e : mwP n w s (p + m + 1) = if (mwP n w s (p + m)).2 < cN (fun i => decide (w i = p + m)) n ∨ (cN (fun i => decide (w i = p + m)) n = (mwP n w s (p + m)).2 ∧ p + m < (mwP n w s (p + m)).1) then (p + m, cN (fun i => decide (w i = p + m)) n) else mwP n w s (p + m) := rfl
    rw [e]
    split
    · rename_i h; dsimp only; omega
    · exact Nat.le_refl _
theorem mwP_c {n : Nat} {w : Nat → Nat} {s : Nat × Nat} {p : Nat} : cN (fun i => decide (w i = p)) n ≤ (mwP n w s (p + 1)).2 := by
  have e : mwP n w s (p + 1) = if (mwP n w s p).2 < cN (fun i => decide (w i = p)) n ∨ (cN (fun i => decide (w i = p)) n = (mwP n w s p).2 ∧ p < (mwP n w s p).1) then (p, cN (fun i => decide (w i = p)) n) else mwP n w s p := rfl
  rw [e]
  split
  · exact Nat.le_refl _
  · rename_i h; omega
theorem mwQ_pos {σ : Nat → Int32} (hG : Good σ) : ∀ m, (0 < cN (okq σ) m → 0 < (mwQ σ m).2) ∧ (cN (okq σ) m = 0 → mwQ σ m = (0, 0)) := by
  intro m
  have hn := hG.n3
  induction m with
  | zero => exact ⟨fun h => absurd h (Nat.lt_irrefl _), fun _ => rfl⟩
  | succ m ih =>
    have e : mwQ σ (m + 1) = if okq σ m = true then mwP (nB σ) (wd (nB σ) m) (mwQ σ m) (nB σ) else mwQ σ m := rfl
    by_cases h : okq σ m = true
    · rw [e, if_pos h, cN_t h]
      refine ⟨fun _ => ?_, fun y => absurd y (by omega)⟩
      have hw := (wd_ok hn m) 0 (by omega)
      have h1 : 0 < cN (fun i => decide (wd (nB σ) m i = wd (nB σ) m 0)) (nB σ) := cN_pos (i := 0) (by omega) (decide_eq_true rfl)
      have h2 := mwP_c (n := nB σ) (w := wd (nB σ) m) (s := mwQ σ m) (p := wd (nB σ) m 0)
      have h3 := mwP_up (n := nB σ) (w := wd (nB σ) m) (s := mwQ σ m) (p := wd (nB σ) m 0 + 1) (nB σ - (wd (nB σ) m 0 + 1))
      rw [show wd (nB σ) m 0 + 1 + (nB σ - (wd (nB σ) m 0 + 1)) = nB σ by omega] at h3
      omega
    · rw [e, if_neg h, cN_f (Bool.eq_false_iff.mpr h)]; exact ih
theorem w01 {x : Int32} : ((nI 0).toInt ≤ x.toInt ∧ x.toInt ≤ (nI 1).toInt) ↔ (x = 0 ∨ x = nI 1) := by
  have e0 : (nI 0).toInt = 0 := rfl
  have e1 : (nI 1).toInt = 1 := rfl
  rw [e0, e1, fz_eq, fn_eq (by omega)]; omega

set_option maxRecDepth 100000 in
set_option maxHeartbeats 4000000 in
theorem c_X8_ifProved (l : Launch) (g : fG) (N : Nat) (ct : Nat → va_E) (σ : Nat → Int32) (k : Nat) (hs : Nat → Nat → Int32) (u1 : Bool) (s1 : Nat → Int32) (u2 : Bool) (s2 : Nat → Int32) (t : Nat → Nat) (len : Nat) (hN : 249 ≤ N) (hG : Good σ) (hR : RFAt g ct σ k hs u1 s1 u2 s2 t len) (x y v : Int32) : Met l yX8_ifProved (wsU yX8_ifProved cX8_ifProved 7 (some .int)) rX8_ifProved (fPre g N ct [.ref (fa g 239), .int x, .int y, .int v]) (fQi g N (fun r ct1 => r = (if sux (nB σ) x y v then nI (cN (pvn σ x.toNatClampNeg y.toNatClampNeg v.toNatClampNeg) (mM σ)) else -2) ∧ RFAt g ct1 σ k hs u1 s1 u2 s2 t len ∧ fSame 239 249 ct ct1)) 0 0 (fB g) := by
  refine fs_start (own := RX8) (lv0 := [(0, .ref (fa g 239)), (1, .int x), (2, .int y), (3, .int v)]) (by decide) rfl (Nat.le_of_ble_eq_true rfl) rfl ?_
  intro p e s m args below meth c ls E hr hlk hnm hP hl hS
  have hx := E.1.1
  have hb := E.1.2.1
  obtain ⟨z, F, hM, hT, hH, hS9, hQ⟩ := id hR
  have m_1o : ct 239 = .inr (8, [.ref (fa g 240), .ref (fa g 241), .int (z 0), .ref (fa g 242), .ref (fa g 243), .ref (fa g 244), .int (z 1), .ref (fa g 245), .int (z 2), .ref (fa g 246), .ref (fa g 247), .ref (fa g 248), .int (z 3), .int (z 4), .int (z 5), .int (z 6), .int (z 7), .int (z 8), .int (z 9)]) := (hM).1
  have m_1r0 : ct 240 = .inl (fcI g, 121, .inl (F 0)) := (hM).2.1
  have m_1r1 : ct 241 = .inl (fcI g, 726, .inl (F 1)) := (hM).2.2.1
  have m_1r2 : ct 242 = .inl (fcI g, 242, .inl (F 2)) := (hM).2.2.2.1
  have m_1r3 : ct 243 = .inl (fcI g, 2, .inl (F 3)) := (hM).2.2.2.2.1
  have m_1r4 : ct 244 = .inl (fcI g, 60, .inl (F 4)) := (hM).2.2.2.2.2.1
  have m_1r5 : ct 245 = .inl (fcI g, 6, .inl (F 5)) := (hM).2.2.2.2.2.2.1
  have m_1r6 : ct 246 = .inl (fcI g, 36, .inl (F 6)) := (hM).2.2.2.2.2.2.2.1
  have m_1r7 : ct 247 = .inl (fcI g, 20, .inl (F 7)) := (hM).2.2.2.2.2.2.2.2.1
  have m_1r8 : ct 248 = .inl (fcI g, 20, .inl (F 8)) := (hM).2.2.2.2.2.2.2.2.2
  have hn3 := hG.n3
  have hn6 := hG.n6
  have hk20 := hG.k
  have hM15 := hG.M
  refine lv_aload_n hx hb dX8_ifProved_0 rfl (lv_at hl 0 rfl) ?_
  refine lv_iload_n hx hb dX8_ifProved_1 rfl (lv_at hl 1 rfl) ?_
  refine lv_iload_n hx hb dX8_ifProved_2 rfl (lv_at hl 2 rfl) ?_
  refine lv_iload_n hx hb dX8_ifProved_3 rfl (lv_at hl 3 rfl) ?_
  refine fs_pi (va_runV (As := [.int x, .int y, .int v]) (rest := []) E.1 (c_X8_suits l g N ct z F σ (by omega) hG hM hT x y v) (lk_RX8_108 E.1.2.2.2.2 ⟨Nat.le_of_ble_eq_true rfl, Nat.le_of_ble_eq_true rfl⟩) (fpreV E hP hS fc8 m_1o (by omega)) rfl rfl hl.1 rfl (lv_room (Nat.le_of_ble_eq_true rfl)) dX8_ifProved_4 ⟨Nat.zero_le _, Nat.zero_le _⟩) hS (fun r_4 locs p_4 hS => ?_)
  refine lv_if_ne (tgt := 13) hx hb dX8_ifProved_7 (by decide) (fun c_7 => ?_) (fun c_7 => ?_)
  · have c_7 := (fb_1 p_4).mp c_7
    obtain ⟨kd, a0, b0, rfl, rfl, rfl, hok⟩ := sux_ok (by omega) c_7
    have hok1 := hok.1
    have hok2 := hok.2.1
    have hok3 : b0 ≤ 6 := by have := hok.2.2.1; have := hok.2.2.2; omega
    refine lv_aload_n hx hb dX8_ifProved_13 rfl (lv_at hl 0 rfl) ?_
    refine fs_pi (va_runV (As := []) (rest := []) E.1 (c_X8_worldsInAll l g N ct z F σ (by omega) hG hM hT) (lk_RX8_89 E.1.2.2.2.2 ⟨Nat.le_of_ble_eq_true rfl, Nat.le_of_ble_eq_true rfl⟩) (fpreV E hP hS fc8 m_1o (by omega)) rfl rfl hl.1 rfl (lv_room (Nat.le_of_ble_eq_true rfl)) dX8_ifProved_14 ⟨Nat.zero_le _, Nat.zero_le _⟩) hS (fun r_14 locs p_14 hS => ?_)
    refine fs_vi (y := (nI (mM σ))) p_14 ?_
    refine lv_istore (lv' := [(4, .int (nI (mM σ))), (0, .ref (fa g 239)), (1, .int (nI kd)), (2, .int (nI a0)), (3, .int (nI b0))]) hx hb dX8_ifProved_17 hl (by decide) rfl (fun ls hl => ?_)
    refine lv_iconst (v := (nI 0)) hx hb dX8_ifProved_19 (by decide) ?_
    refine lv_istore (lv' := [(5, .int (nI 0)), (4, .int (nI (mM σ))), (0, .ref (fa g 239)), (1, .int (nI kd)), (2, .int (nI a0)), (3, .int (nI b0))]) hx hb dX8_ifProved_20 hl (by decide) rfl (fun ls hl => ?_)
    refine lv_iconst (v := (nI 0)) hx hb dX8_ifProved_22 (by decide) ?_
    refine lv_istore (lv' := [(6, .int (nI 0)), (5, .int (nI 0)), (4, .int (nI (mM σ))), (0, .ref (fa g 239)), (1, .int (nI kd)), (2, .int (nI a0)), (3, .int (nI b0))]) hx hb dX8_ifProved_23 hl (by decide) rfl (fun ls hl => ?_)
    have MA_2 : MA g ct (mkz (z 0) (z 1) (z 2) (z 3) (z 4) (z 5) (z 6) (z 7) (z 8) (z 9)) (mkF (F 0) (F 1) (F 2) (F 3) (F 4) (F 5) (F 6) (F 7) (F 8)) := ⟨m_1o, m_1r0, m_1r1, m_1r2, m_1r3, m_1r4, m_1r5, m_1r6, m_1r7, m_1r8⟩
    refine fs_ind (g := g) (N := N) (St := Nat) (fun (q : Nat) (ct_3 : Nat → va_E) (ls : Array Slot) => lv_has ls 7 [(0, .ref (fa g 239)), (1, .int (nI kd)), (2, .int (nI a0)), (3, .int (nI b0)), (4, .int (nI (mM σ))), (5, .int (nI (cN (pvn σ kd a0 b0) q))), (6, .int (nI q))] ∧ ∃ (z1 : Nat → Int32) (F1 : Nat → Nat → Int32), MA g ct_3 z1 F1 ∧ (q ≤ mM σ ∧ KK z F z1 F1) ∧ fSame 239 249 ct ct_3) (fun q => mM σ - q) ?_ 0 _ _ ls _ ⟨lv_sub hl [3, 4, 5, 6, 2, 1, 0] rfl, ⟨(mkz (z 0) (z 1) (z 2) (z 3) (z 4) (z 5) (z 6) (z 7) (z 8) (z 9)), (mkF (F 0) (F 1) (F 2) (F 3) (F 4) (F 5) (F 6) (F 7) (F 8)), MA_2, ⟨Nat.zero_le _, ⟨⟨rfl, rfl⟩, rfl, rfl, rfl, rfl, rfl⟩⟩, (show fSame 239 249 _ _ from fSame.rf)⟩⟩ hP hS
    clear hl hP hS
    intro st ct_3 H ls locs hI hP hS ih
    obtain ⟨q, rfl⟩ : ∃ z, z = st := ⟨_, rfl⟩
    obtain ⟨hl, z1, F1, hM1, hI, hsm⟩ := hI
    have m_4o : ct_3 239 = .inr (8, [.ref (fa g 240), .ref (fa g 241), .int (z1 0), .ref (fa g 242), .ref (fa g 243), .ref (fa g 244), .int (z1 1), .ref (fa g 245), .int (z1 2), .ref (fa g 246), .ref (fa g 247), .ref (fa g 248), .int (z1 3), .int (z1 4), .int (z1 5), .int (z1 6), .int (z1 7), .int (z1 8), .int (z1 9)]) := (hM1).1
    have m_4r0 : ct_3 240 = .inl (fcI g, 121, .inl (F1 0)) := (hM1).2.1
    have m_4r1 : ct_3 241 = .inl (fcI g, 726, .inl (F1 1)) := (hM1).2.2.1
    have m_4r2 : ct_3 242 = .inl (fcI g, 242, .inl (F1 2)) := (hM1).2.2.2.1
    have m_4r3 : ct_3 243 = .inl (fcI g, 2, .inl (F1 3)) := (hM1).2.2.2.2.1
    have m_4r4 : ct_3 244 = .inl (fcI g, 60, .inl (F1 4)) := (hM1).2.2.2.2.2.1
    have m_4r5 : ct_3 245 = .inl (fcI g, 6, .inl (F1 5)) := (hM1).2.2.2.2.2.2.1
    have m_4r6 : ct_3 246 = .inl (fcI g, 36, .inl (F1 6)) := (hM1).2.2.2.2.2.2.2.1
    have m_4r7 : ct_3 247 = .inl (fcI g, 20, .inl (F1 7)) := (hM1).2.2.2.2.2.2.2.2.1
    have m_4r8 : ct_3 248 = .inl (fcI g, 20, .inl (F1 8)) := (hM1).2.2.2.2.2.2.2.2.2
    have hI1 := hI.1
    have hTl := KK.sr hI.2 hT
    refine lv_iload hx hb dX8_ifProved_25 (lv_at hl 6 rfl) ?_
    refine lv_iload hx hb dX8_ifProved_27 (lv_at hl 4 rfl) ?_
    refine lv_icmp_ge (tgt := 73) hx hb dX8_ifProved_29 (by decide) (fun c_29 => ?_) (fun c_29 => ?_)
    · rw [nI_leI (by omega) (by omega)] at c_29
      have hqm : q = mM σ := by omega
      refine lv_iload hx hb dX8_ifProved_73 (lv_at hl 5 rfl) ?_
      have MA8 : MA g ct_3 (mkz (z1 0) (z1 1) (z1 2) (z1 3) (z1 4) (z1 5) (z1 6) (z1 7) (z1 8) (z1 9)) (mkF (F1 0) (F1 1) (F1 2) (F1 3) (F1 4) (F1 5) (F1 6) (F1 7) (F1 8)) := ⟨m_4o, m_4r0, m_4r1, m_4r2, m_4r3, m_4r4, m_4r5, m_4r6, m_4r7, m_4r8⟩
      refine fs_iret E hr hlk hP hS dX8_ifProved_75 ?_
      rw [nI_cl (show kd < 1000000 by omega), nI_cl (show a0 < 1000000 by omega), nI_cl (show b0 < 1000000 by omega)]
      refine ⟨?_, RFAt.kk hT hH hS9 hQ MA8 hI.2, (show fSame 239 249 _ _ from fSame.tr hsm fSame.rf)⟩
      rw [if_pos c_7, hqm]
    · rw [nI_leI (by omega) (by omega)] at c_29
      refine lv_aload_n hx hb dX8_ifProved_32 rfl (lv_at hl 0 rfl) ?_
      refine lv_iload hx hb dX8_ifProved_33 (lv_at hl 6 rfl) ?_
      refine fs_v (va_runV (As := [.int (nI q)]) (rest := []) E.1 (c_X8_takeWorld l g N ct_3 z1 F1 σ (by omega) hG hM1 hTl q (by omega)) (lk_RX8_93 E.1.2.2.2.2 ⟨Nat.le_of_ble_eq_true rfl, Nat.le_of_ble_eq_true rfl⟩) (fpreV E hP hS fc8 m_4o (by omega)) rfl rfl hl.1 rfl (lv_room (Nat.le_of_ble_eq_true rfl)) dX8_ifProved_35 ⟨Nat.zero_le _, Nat.zero_le _⟩) hS (fun ct_5 H locs p_35 hP hS => ?_)
      obtain ⟨fw_6, ew_7, hw_8⟩ := p_35
      have M_10 := MA.f5 hM1 ew_7
      have m_12o : ct_5 239 = .inr (8, [.ref (fa g 240), .ref (fa g 241), .int (z1 0), .ref (fa g 242), .ref (fa g 243), .ref (fa g 244), .int (z1 1), .ref (fa g 245), .int (z1 2), .ref (fa g 246), .ref (fa g 247), .ref (fa g 248), .int (z1 3), .int (z1 4), .int (z1 5), .int (z1 6), .int (z1 7), .int (z1 8), .int (z1 9)]) := (M_10).1
      have m_12r0 : ct_5 240 = .inl (fcI g, 121, .inl (F1 0)) := (M_10).2.1
      have m_12r1 : ct_5 241 = .inl (fcI g, 726, .inl (F1 1)) := (M_10).2.2.1
      have m_12r2 : ct_5 242 = .inl (fcI g, 242, .inl (F1 2)) := (M_10).2.2.2.1
      have m_12r3 : ct_5 243 = .inl (fcI g, 2, .inl (F1 3)) := (M_10).2.2.2.2.1
      have m_12r4 : ct_5 244 = .inl (fcI g, 60, .inl (F1 4)) := (M_10).2.2.2.2.2.1
      have m_12r5 : ct_5 245 = .inl (fcI g, 6, .inl fw_6) := (M_10).2.2.2.2.2.2.1
      have m_12r6 : ct_5 246 = .inl (fcI g, 36, .inl (F1 6)) := (M_10).2.2.2.2.2.2.2.1
      have m_12r7 : ct_5 247 = .inl (fcI g, 20, .inl (F1 7)) := (M_10).2.2.2.2.2.2.2.2.1
      have m_12r8 : ct_5 248 = .inl (fcI g, 20, .inl (F1 8)) := (M_10).2.2.2.2.2.2.2.2.2
      have T_11 : SR σ (uF F1 5 fw_6) := fun i hi => hTl i hi
      have hW_9 : WR σ (wd (nB σ) q) (uF F1 5 fw_6) := fun p hp => hw_8 p hp
      refine lv_iload hx hb dX8_ifProved_38 (lv_at hl 5 rfl) ?_
      refine lv_aload_n hx hb dX8_ifProved_40 rfl (lv_at hl 0 rfl) ?_
      refine lv_iload_n hx hb dX8_ifProved_41 rfl (lv_at hl 1 rfl) ?_
      refine lv_iload_n hx hb dX8_ifProved_42 rfl (lv_at hl 2 rfl) ?_
      refine lv_iload_n hx hb dX8_ifProved_43 rfl (lv_at hl 3 rfl) ?_
      refine fs_pi (va_runV (As := [.int (nI kd), .int (nI a0), .int (nI b0)]) (rest := [.int (nI (cN (pvn σ kd a0 b0) q))]) E.1 (c_X8_holds l g N ct_5 z1 (uF F1 5 fw_6) σ (by omega) hG M_10 T_11 (wd (nB σ) q) (wd_ok hn3 _) hW_9 kd a0 b0 hok) (lk_RX8_65 E.1.2.2.2.2 ⟨Nat.le_of_ble_eq_true rfl, Nat.le_of_ble_eq_true rfl⟩) (fpreV E hP hS fc8 m_12o (by omega)) rfl rfl hl.1 rfl (lv_room (Nat.le_of_ble_eq_true rfl)) dX8_ifProved_44 ⟨Nat.zero_le _, Nat.zero_le _⟩) hS (fun r_44 locs p_44 hS => ?_)
      refine lv_if_eq (tgt := 63) hx hb dX8_ifProved_47 (by decide) (fun c_47 => ?_) (fun c_47 => ?_)
      · have c_47 := (fb_0 p_44).mp c_47
        refine lv_iconst (v := (nI 0)) hx hb dX8_ifProved_63 (by decide) ?_
        refine lv_iadd hx hb dX8_ifProved_64 ?_
        refine fs_vi (y := (nI (cN (pvn σ kd a0 b0) (q + 1)))) (by rw [cN_f ((by show (hd (nB σ) (wd (nB σ) q) kd a0 b0 && okq σ q) = false; rw [Bool.eq_false_iff.mpr c_47]; rfl))]; exact nI_add _ 0) ?_
        refine lv_istore (lv' := [(5, .int (nI (cN (pvn σ kd a0 b0) (q + 1)))), (0, .ref (fa g 239)), (1, .int (nI kd)), (2, .int (nI a0)), (3, .int (nI b0)), (4, .int (nI (mM σ))), (6, .int (nI q))]) hx hb dX8_ifProved_65 hl (by decide) rfl (fun ls hl => ?_)
        refine lv_iinc (v := (nI (q + 1))) (lv' := [(6, .int (nI (q + 1))), (5, .int (nI (cN (pvn σ kd a0 b0) (q + 1)))), (0, .ref (fa g 239)), (1, .int (nI kd)), (2, .int (nI a0)), (3, .int (nI b0)), (4, .int (nI (mM σ)))]) hx hb dX8_ifProved_67 hl (k := 6) rfl (nI_1 _) (by decide) rfl (fun ls hl => ?_)
        refine lv_goto (tgt := 25) hx hb dX8_ifProved_70 (by decide) ?_
        have MA9 : MA g ct_5 (mkz (z1 0) (z1 1) (z1 2) (z1 3) (z1 4) (z1 5) (z1 6) (z1 7) (z1 8) (z1 9)) (mkF (F1 0) (F1 1) (F1 2) (F1 3) (F1 4) fw_6 (F1 6) (F1 7) (F1 8)) := ⟨m_12o, m_12r0, m_12r1, m_12r2, m_12r3, m_12r4, m_12r5, m_12r6, m_12r7, m_12r8⟩
        exact ih (q + 1) _ _ ls _ (by (try dsimp only); omega) ⟨lv_sub hl [2, 3, 4, 5, 6, 1, 0] rfl, ⟨_, _, MA9, ⟨by omega, hI.2⟩, (show fSame 239 249 _ _ from fSame.tr hsm (fSame.ap fSame.rf ew_7 (by omega) (by omega)))⟩⟩ hP hS
      · have c_47 := (fb_1 p_44).mp c_47
        refine lv_aload_n hx hb dX8_ifProved_50 rfl (lv_at hl 0 rfl) ?_
        refine fs_pi (va_runV (As := []) (rest := [.int (nI (cN (pvn σ kd a0 b0) q))]) E.1 (c_X8_wrongOne l g N ct_5 z1 (uF F1 5 fw_6) σ (by omega) hG M_10 T_11 (wd (nB σ) q) (wd_ok hn3 _) hW_9) (lk_RX8_96 E.1.2.2.2.2 ⟨Nat.le_of_ble_eq_true rfl, Nat.le_of_ble_eq_true rfl⟩) (fpreV E hP hS fc8 m_12o (by omega)) rfl rfl hl.1 rfl (lv_room (Nat.le_of_ble_eq_true rfl)) dX8_ifProved_51 ⟨Nat.zero_le _, Nat.zero_le _⟩) hS (fun r_51 locs p_51 hS => ?_)
        refine fs_vi (y := (wrI σ (wd (nB σ) q) (nT σ))) p_51 ?_
        refine lv_bipush (v := (-6)) hx hb dX8_ifProved_54 (by decide) ?_
        refine lv_icmp_ne (tgt := 63) hx hb dX8_ifProved_56 (by decide) (fun c_56 => ?_) (fun c_56 => ?_)
        · refine lv_iconst (v := (nI 0)) hx hb dX8_ifProved_63 (by decide) ?_
          refine lv_iadd hx hb dX8_ifProved_64 ?_
          refine fs_vi (y := (nI (cN (pvn σ kd a0 b0) (q + 1)))) (by rw [cN_f ((by show (hd (nB σ) (wd (nB σ) q) kd a0 b0 && okq σ q) = false; rw [Bool.eq_false_iff.mpr (fun y => c_56 ((wr_ok hk20).mpr y)), Bool.and_false]))]; exact nI_add _ 0) ?_
          refine lv_istore (lv' := [(5, .int (nI (cN (pvn σ kd a0 b0) (q + 1)))), (0, .ref (fa g 239)), (1, .int (nI kd)), (2, .int (nI a0)), (3, .int (nI b0)), (4, .int (nI (mM σ))), (6, .int (nI q))]) hx hb dX8_ifProved_65 hl (by decide) rfl (fun ls hl => ?_)
          refine lv_iinc (v := (nI (q + 1))) (lv' := [(6, .int (nI (q + 1))), (5, .int (nI (cN (pvn σ kd a0 b0) (q + 1)))), (0, .ref (fa g 239)), (1, .int (nI kd)), (2, .int (nI a0)), (3, .int (nI b0)), (4, .int (nI (mM σ)))]) hx hb dX8_ifProved_67 hl (k := 6) rfl (nI_1 _) (by decide) rfl (fun ls hl => ?_)
          refine lv_goto (tgt := 25) hx hb dX8_ifProved_70 (by decide) ?_
          have MA9 : MA g ct_5 (mkz (z1 0) (z1 1) (z1 2) (z1 3) (z1 4) (z1 5) (z1 6) (z1 7) (z1 8) (z1 9)) (mkF (F1 0) (F1 1) (F1 2) (F1 3) (F1 4) fw_6 (F1 6) (F1 7) (F1 8)) := ⟨m_12o, m_12r0, m_12r1, m_12r2, m_12r3, m_12r4, m_12r5, m_12r6, m_12r7, m_12r8⟩
          exact ih (q + 1) _ _ ls _ (by (try dsimp only); omega) ⟨lv_sub hl [2, 3, 4, 5, 6, 1, 0] rfl, ⟨_, _, MA9, ⟨by omega, hI.2⟩, (show fSame 239 249 _ _ from fSame.tr hsm (fSame.ap fSame.rf ew_7 (by omega) (by omega)))⟩⟩ hP hS
        · refine lv_iconst (v := (nI 1)) hx hb dX8_ifProved_59 (by decide) ?_
          refine lv_goto (tgt := 64) hx hb dX8_ifProved_60 (by decide) ?_
          refine lv_iadd hx hb dX8_ifProved_64 ?_
          refine fs_vi (y := (nI (cN (pvn σ kd a0 b0) (q + 1)))) (by rw [cN_t ((by show (hd (nB σ) (wd (nB σ) q) kd a0 b0 && okq σ q) = true; rw [c_47, (wr_ok hk20).mp c_56]; rfl))]; exact nI_1 _) ?_
          refine lv_istore (lv' := [(5, .int (nI (cN (pvn σ kd a0 b0) (q + 1)))), (0, .ref (fa g 239)), (1, .int (nI kd)), (2, .int (nI a0)), (3, .int (nI b0)), (4, .int (nI (mM σ))), (6, .int (nI q))]) hx hb dX8_ifProved_65 hl (by decide) rfl (fun ls hl => ?_)
          refine lv_iinc (v := (nI (q + 1))) (lv' := [(6, .int (nI (q + 1))), (5, .int (nI (cN (pvn σ kd a0 b0) (q + 1)))), (0, .ref (fa g 239)), (1, .int (nI kd)), (2, .int (nI a0)), (3, .int (nI b0)), (4, .int (nI (mM σ)))]) hx hb dX8_ifProved_67 hl (k := 6) rfl (nI_1 _) (by decide) rfl (fun ls hl => ?_)
          refine lv_goto (tgt := 25) hx hb dX8_ifProved_70 (by decide) ?_
          have MA9 : MA g ct_5 (mkz (z1 0) (z1 1) (z1 2) (z1 3) (z1 4) (z1 5) (z1 6) (z1 7) (z1 8) (z1 9)) (mkF (F1 0) (F1 1) (F1 2) (F1 3) (F1 4) fw_6 (F1 6) (F1 7) (F1 8)) := ⟨m_12o, m_12r0, m_12r1, m_12r2, m_12r3, m_12r4, m_12r5, m_12r6, m_12r7, m_12r8⟩
          exact ih (q + 1) _ _ ls _ (by (try dsimp only); omega) ⟨lv_sub hl [2, 3, 4, 5, 6, 1, 0] rfl, ⟨_, _, MA9, ⟨by omega, hI.2⟩, (show fSame 239 249 _ _ from fSame.tr hsm (fSame.ap fSame.rf ew_7 (by omega) (by omega)))⟩⟩ hP hS
  · have c_7 := (fb_0 p_4).mp c_7
    refine lv_bipush (v := (-2)) hx hb dX8_ifProved_10 (by decide) ?_
    refine fs_iret E hr hlk hP hS dX8_ifProved_12 ?_
    refine ⟨?_, hR, fSame.rf⟩
    rw [if_neg c_7]

set_option maxRecDepth 100000 in
set_option maxHeartbeats 4000000 in
theorem c_X8_world (l : Launch) (g : fG) (N : Nat) (ct : Nat → va_E) (σ : Nat → Int32) (k : Nat) (hs : Nat → Nat → Int32) (u1 : Bool) (s1 : Nat → Int32) (u2 : Bool) (s2 : Nat → Int32) (t : Nat → Nat) (len : Nat) (hN : 249 ≤ N) (hG : Good σ) (hR : RFAt g ct σ k hs u1 s1 u2 s2 t len) (x y : Int32) : Met l yX8_world (wsU yX8_world cX8_world 7 (some .int)) rX8_world (fPre g N ct [.ref (fa g 239), .int x, .int y]) (fQi g N (fun r ct1 => r = (if hbx σ y then wlF σ x y.toNatClampNeg (mM σ) else -1) ∧ RFAt g ct1 σ k hs u1 s1 u2 s2 t len ∧ fSame 239 249 ct ct1)) 0 0 (fB g) := by
  refine fs_start (own := RX8) (lv0 := [(0, .ref (fa g 239)), (1, .int x), (2, .int y)]) (by decide) rfl (Nat.le_of_ble_eq_true rfl) rfl ?_
  intro p e s m args below meth c ls E hr hlk hnm hP hl hS
  have hx := E.1.1
  have hb := E.1.2.1
  obtain ⟨z, F, hM, hT, hH, hS9, hQ⟩ := id hR
  have m_1o : ct 239 = .inr (8, [.ref (fa g 240), .ref (fa g 241), .int (z 0), .ref (fa g 242), .ref (fa g 243), .ref (fa g 244), .int (z 1), .ref (fa g 245), .int (z 2), .ref (fa g 246), .ref (fa g 247), .ref (fa g 248), .int (z 3), .int (z 4), .int (z 5), .int (z 6), .int (z 7), .int (z 8), .int (z 9)]) := (hM).1
  have m_1r0 : ct 240 = .inl (fcI g, 121, .inl (F 0)) := (hM).2.1
  have m_1r1 : ct 241 = .inl (fcI g, 726, .inl (F 1)) := (hM).2.2.1
  have m_1r2 : ct 242 = .inl (fcI g, 242, .inl (F 2)) := (hM).2.2.2.1
  have m_1r3 : ct 243 = .inl (fcI g, 2, .inl (F 3)) := (hM).2.2.2.2.1
  have m_1r4 : ct 244 = .inl (fcI g, 60, .inl (F 4)) := (hM).2.2.2.2.2.1
  have m_1r5 : ct 245 = .inl (fcI g, 6, .inl (F 5)) := (hM).2.2.2.2.2.2.1
  have m_1r6 : ct 246 = .inl (fcI g, 36, .inl (F 6)) := (hM).2.2.2.2.2.2.2.1
  have m_1r7 : ct 247 = .inl (fcI g, 20, .inl (F 7)) := (hM).2.2.2.2.2.2.2.2.1
  have m_1r8 : ct 248 = .inl (fcI g, 20, .inl (F 8)) := (hM).2.2.2.2.2.2.2.2.2
  have hn3 := hG.n3
  have hn6 := hG.n6
  have hk20 := hG.k
  have hM15 := hG.M
  refine lv_iload_n hx hb dX8_world_0 rfl (lv_at hl 1 rfl) ?_
  refine lv_if_lt (tgt := 12) hx hb dX8_world_1 (by decide) (fun c_1 => ?_) (fun c_1 => ?_)
  · rw [fz_lt] at c_1
    refine lv_iconst (v := (-1)) hx hb dX8_world_12 (by decide) ?_
    refine fs_iret E hr hlk hP hS dX8_world_13 ?_
    refine ⟨?_, hR, fSame.rf⟩
    by_cases hy : hbx σ y
    · rw [if_pos hy, wlF_neg (by omega) c_1]
    · rw [if_neg hy]
  · rw [fz_lt] at c_1
    refine lv_aload_n hx hb dX8_world_4 rfl (lv_at hl 0 rfl) ?_
    refine lv_iload_n hx hb dX8_world_5 rfl (lv_at hl 2 rfl) ?_
    refine fs_pi (va_runV (As := [.int y]) (rest := []) E.1 (c_X8_isBox l g N ct z F σ (by omega) hG hM hT y) (lk_RX8_57 E.1.2.2.2.2 ⟨Nat.le_of_ble_eq_true rfl, Nat.le_of_ble_eq_true rfl⟩) (fpreV E hP hS fc8 m_1o (by omega)) rfl rfl hl.1 rfl (lv_room (Nat.le_of_ble_eq_true rfl)) dX8_world_6 ⟨Nat.zero_le _, Nat.zero_le _⟩) hS (fun r_6 locs p_6 hS => ?_)
    refine lv_if_ne (tgt := 14) hx hb dX8_world_9 (by decide) (fun c_9 => ?_) (fun c_9 => ?_)
    · have c_9 := (fb_1 p_6).mp c_9
      obtain ⟨x0, hx0, rfl⟩ := fex (x := x) (n := 2147483648) (by omega) (by have := Int32.toInt_lt x; omega)
      obtain ⟨p0, hp0, rfl⟩ := fex c_9.1 c_9.2
      refine lv_aload_n hx hb dX8_world_14 rfl (lv_at hl 0 rfl) ?_
      refine fs_pi (va_runV (As := []) (rest := []) E.1 (c_X8_worldsInAll l g N ct z F σ (by omega) hG hM hT) (lk_RX8_89 E.1.2.2.2.2 ⟨Nat.le_of_ble_eq_true rfl, Nat.le_of_ble_eq_true rfl⟩) (fpreV E hP hS fc8 m_1o (by omega)) rfl rfl hl.1 rfl (lv_room (Nat.le_of_ble_eq_true rfl)) dX8_world_15 ⟨Nat.zero_le _, Nat.zero_le _⟩) hS (fun r_15 locs p_15 hS => ?_)
      refine fs_vi (y := (nI (mM σ))) p_15 ?_
      refine lv_istore_n (lv' := [(3, .int (nI (mM σ))), (0, .ref (fa g 239)), (1, .int (nI x0)), (2, .int (nI p0))]) hx hb dX8_world_18 rfl hl (by decide) rfl (fun ls hl => ?_)
      refine lv_iload_n hx hb dX8_world_19 rfl (lv_at hl 2 rfl) ?_
      refine lv_istore (lv' := [(4, .int (nI x0)), (3, .int (nI (mM σ))), (0, .ref (fa g 239)), (1, .int (nI x0)), (2, .int (nI p0))]) hx hb dX8_world_20 hl (by decide) rfl (fun ls hl => ?_)
      refine lv_iconst (v := (nI 0)) hx hb dX8_world_22 (by decide) ?_
      refine lv_istore (lv' := [(5, .int (nI 0)), (4, .int (nI x0)), (3, .int (nI (mM σ))), (0, .ref (fa g 239)), (1, .int (nI x0)), (2, .int (nI p0))]) hx hb dX8_world_23 hl (by decide) rfl (fun ls hl => ?_)
      have MA_2 : MA g ct (mkz (z 0) (z 1) (z 2) (z 3) (z 4) (z 5) (z 6) (z 7) (z 8) (z 9)) (mkF (F 0) (F 1) (F 2) (F 3) (F 4) (F 5) (F 6) (F 7) (F 8)) := ⟨m_1o, m_1r0, m_1r1, m_1r2, m_1r3, m_1r4, m_1r5, m_1r6, m_1r7, m_1r8⟩
      refine fs_ind (g := g) (N := N) (St := Nat) (fun (q : Nat) (ct_3 : Nat → va_E) (ls : Array Slot) => lv_has ls 7 [(0, .ref (fa g 239)), (1, .int (nI x0)), (2, .int (nI p0)), (3, .int (nI (mM σ))), (4, .int (nI (x0 - cN (okq σ) q))), (5, .int (nI q))] ∧ ∃ (z1 : Nat → Int32) (F1 : Nat → Nat → Int32), MA g ct_3 z1 F1 ∧ (q ≤ mM σ ∧ KK z F z1 F1 ∧ cN (okq σ) q ≤ x0) ∧ fSame 239 249 ct ct_3) (fun q => mM σ - q) ?_ 0 _ _ ls _ ⟨lv_sub hl [3, 4, 5, 2, 1, 0] rfl, ⟨(mkz (z 0) (z 1) (z 2) (z 3) (z 4) (z 5) (z 6) (z 7) (z 8) (z 9)), (mkF (F 0) (F 1) (F 2) (F 3) (F 4) (F 5) (F 6) (F 7) (F 8)), MA_2, ⟨Nat.zero_le _, ⟨⟨rfl, rfl⟩, rfl, rfl, rfl, rfl, rfl⟩, Nat.zero_le _⟩, (show fSame 239 249 _ _ from fSame.rf)⟩⟩ hP hS
      clear hl hP hS
      intro st ct_3 H ls locs hI hP hS ih
      obtain ⟨q, rfl⟩ : ∃ z, z = st := ⟨_, rfl⟩
      obtain ⟨hl, z1, F1, hM1, hI, hsm⟩ := hI
      have m_4o : ct_3 239 = .inr (8, [.ref (fa g 240), .ref (fa g 241), .int (z1 0), .ref (fa g 242), .ref (fa g 243), .ref (fa g 244), .int (z1 1), .ref (fa g 245), .int (z1 2), .ref (fa g 246), .ref (fa g 247), .ref (fa g 248), .int (z1 3), .int (z1 4), .int (z1 5), .int (z1 6), .int (z1 7), .int (z1 8), .int (z1 9)]) := (hM1).1
      have m_4r0 : ct_3 240 = .inl (fcI g, 121, .inl (F1 0)) := (hM1).2.1
      have m_4r1 : ct_3 241 = .inl (fcI g, 726, .inl (F1 1)) := (hM1).2.2.1
      have m_4r2 : ct_3 242 = .inl (fcI g, 242, .inl (F1 2)) := (hM1).2.2.2.1
      have m_4r3 : ct_3 243 = .inl (fcI g, 2, .inl (F1 3)) := (hM1).2.2.2.2.1
      have m_4r4 : ct_3 244 = .inl (fcI g, 60, .inl (F1 4)) := (hM1).2.2.2.2.2.1
      have m_4r5 : ct_3 245 = .inl (fcI g, 6, .inl (F1 5)) := (hM1).2.2.2.2.2.2.1
      have m_4r6 : ct_3 246 = .inl (fcI g, 36, .inl (F1 6)) := (hM1).2.2.2.2.2.2.2.1
      have m_4r7 : ct_3 247 = .inl (fcI g, 20, .inl (F1 7)) := (hM1).2.2.2.2.2.2.2.2.1
      have m_4r8 : ct_3 248 = .inl (fcI g, 20, .inl (F1 8)) := (hM1).2.2.2.2.2.2.2.2.2
      have hI1 := hI.1
      have hI3 := hI.2.2
      have hTl := KK.sr hI.2.1 hT
      have hcl := cN_le (okq σ) q
      refine lv_iload hx hb dX8_world_25 (lv_at hl 5 rfl) ?_
      refine lv_iload_n hx hb dX8_world_27 rfl (lv_at hl 3 rfl) ?_
      refine lv_icmp_ge (tgt := 91) hx hb dX8_world_28 (by decide) (fun c_28 => ?_) (fun c_28 => ?_)
      · rw [nI_leI (by omega) (by omega)] at c_28
        have hqm : q = mM σ := by omega
        refine lv_iconst (v := (-1)) hx hb dX8_world_91 (by decide) ?_
        have MA8 : MA g ct_3 (mkz (z1 0) (z1 1) (z1 2) (z1 3) (z1 4) (z1 5) (z1 6) (z1 7) (z1 8) (z1 9)) (mkF (F1 0) (F1 1) (F1 2) (F1 3) (F1 4) (F1 5) (F1 6) (F1 7) (F1 8)) := ⟨m_4o, m_4r0, m_4r1, m_4r2, m_4r3, m_4r4, m_4r5, m_4r6, m_4r7, m_4r8⟩
        refine fs_iret E hr hlk hP hS dX8_world_92 ?_
        rw [nI_cl (show p0 < 1000000 by omega)]
        refine ⟨?_, RFAt.kk hT hH hS9 hQ MA8 hI.2.1, (show fSame 239 249 _ _ from fSame.tr hsm fSame.rf)⟩
        rw [if_pos c_9, wlF_past (by omega) hx0 (by rw [← hqm]; exact hI.2.2)]
      · rw [nI_leI (by omega) (by omega)] at c_28
        refine lv_aload_n hx hb dX8_world_31 rfl (lv_at hl 0 rfl) ?_
        refine lv_iload hx hb dX8_world_32 (lv_at hl 5 rfl) ?_
        refine fs_v (va_runV (As := [.int (nI q)]) (rest := []) E.1 (c_X8_takeWorld l g N ct_3 z1 F1 σ (by omega) hG hM1 hTl q (by omega)) (lk_RX8_93 E.1.2.2.2.2 ⟨Nat.le_of_ble_eq_true rfl, Nat.le_of_ble_eq_true rfl⟩) (fpreV E hP hS fc8 m_4o (by omega)) rfl rfl hl.1 rfl (lv_room (Nat.le_of_ble_eq_true rfl)) dX8_world_34 ⟨Nat.zero_le _, Nat.zero_le _⟩) hS (fun ct_5 H locs p_34 hP hS => ?_)
        obtain ⟨fw_6, ew_7, hw_8⟩ := p_34
        have M_10 := MA.f5 hM1 ew_7
        have m_12o : ct_5 239 = .inr (8, [.ref (fa g 240), .ref (fa g 241), .int (z1 0), .ref (fa g 242), .ref (fa g 243), .ref (fa g 244), .int (z1 1), .ref (fa g 245), .int (z1 2), .ref (fa g 246), .ref (fa g 247), .ref (fa g 248), .int (z1 3), .int (z1 4), .int (z1 5), .int (z1 6), .int (z1 7), .int (z1 8), .int (z1 9)]) := (M_10).1
        have m_12r0 : ct_5 240 = .inl (fcI g, 121, .inl (F1 0)) := (M_10).2.1
        have m_12r1 : ct_5 241 = .inl (fcI g, 726, .inl (F1 1)) := (M_10).2.2.1
        have m_12r2 : ct_5 242 = .inl (fcI g, 242, .inl (F1 2)) := (M_10).2.2.2.1
        have m_12r3 : ct_5 243 = .inl (fcI g, 2, .inl (F1 3)) := (M_10).2.2.2.2.1
        have m_12r4 : ct_5 244 = .inl (fcI g, 60, .inl (F1 4)) := (M_10).2.2.2.2.2.1
        have m_12r5 : ct_5 245 = .inl (fcI g, 6, .inl fw_6) := (M_10).2.2.2.2.2.2.1
        have m_12r6 : ct_5 246 = .inl (fcI g, 36, .inl (F1 6)) := (M_10).2.2.2.2.2.2.2.1
        have m_12r7 : ct_5 247 = .inl (fcI g, 20, .inl (F1 7)) := (M_10).2.2.2.2.2.2.2.2.1
        have m_12r8 : ct_5 248 = .inl (fcI g, 20, .inl (F1 8)) := (M_10).2.2.2.2.2.2.2.2.2
        have T_11 : SR σ (uF F1 5 fw_6) := fun i hi => hTl i hi
        have hW_9 : WR σ (wd (nB σ) q) (uF F1 5 fw_6) := fun p hp => hw_8 p hp
        refine lv_aload_n hx hb dX8_world_37 rfl (lv_at hl 0 rfl) ?_
        refine fs_pi (va_runV (As := []) (rest := []) E.1 (c_X8_wrongOne l g N ct_5 z1 (uF F1 5 fw_6) σ (by omega) hG M_10 T_11 (wd (nB σ) q) (wd_ok hn3 _) hW_9) (lk_RX8_96 E.1.2.2.2.2 ⟨Nat.le_of_ble_eq_true rfl, Nat.le_of_ble_eq_true rfl⟩) (fpreV E hP hS fc8 m_12o (by omega)) rfl rfl hl.1 rfl (lv_room (Nat.le_of_ble_eq_true rfl)) dX8_world_38 ⟨Nat.zero_le _, Nat.zero_le _⟩) hS (fun r_38 locs p_38 hS => ?_)
        refine fs_vi (y := (wrI σ (wd (nB σ) q) (nT σ))) p_38 ?_
        refine lv_bipush (v := (-6)) hx hb dX8_world_41 (by decide) ?_
        refine lv_icmp_ne (tgt := 50) hx hb dX8_world_43 (by decide) (fun c_43 => ?_) (fun c_43 => ?_)
        · refine lv_iconst (v := (nI 0)) hx hb dX8_world_50 (by decide) ?_
          refine lv_istore (lv' := [(6, .int (nI 0)), (0, .ref (fa g 239)), (1, .int (nI x0)), (2, .int (nI p0)), (3, .int (nI (mM σ))), (4, .int (nI (x0 - cN (okq σ) q))), (5, .int (nI q))]) hx hb dX8_world_51 hl (by decide) rfl (fun ls hl => ?_)
          refine lv_iload hx hb dX8_world_53 (lv_at hl 0 rfl) ?_
          refine lv_if_eq (tgt := 70) hx hb dX8_world_55 (by decide) (fun c_55 => ?_) (fun c_55 => ?_)
          rotate_left
          · exact absurd c_55 (by decide)
          refine lv_iload hx hb dX8_world_70 (lv_at hl 5 rfl) ?_
          refine lv_iload hx hb dX8_world_72 (lv_at hl 0 rfl) ?_
          refine lv_if_eq (tgt := 81) hx hb dX8_world_74 (by decide) (fun c_74 => ?_) (fun c_74 => ?_)
          rotate_left
          · exact absurd c_74 (by decide)
          refine lv_iconst (v := (nI 0)) hx hb dX8_world_81 (by decide) ?_
          refine lv_isub hx hb dX8_world_82 ?_
          refine fs_vi (y := (nI (x0 - cN (okq σ) (q + 1)))) (by rw [cN_f (Bool.eq_false_iff.mpr (fun y => c_43 ((wr_ok hk20).mpr y))), pk_sub (by omega)]; rfl) ?_
          refine lv_istore (lv' := [(4, .int (nI (x0 - cN (okq σ) (q + 1)))), (6, .int (nI 0)), (0, .ref (fa g 239)), (1, .int (nI x0)), (2, .int (nI p0)), (3, .int (nI (mM σ))), (5, .int (nI q))]) hx hb dX8_world_83 hl (by decide) rfl (fun ls hl => ?_)
          refine lv_iinc (v := (nI (q + 1))) (lv' := [(5, .int (nI (q + 1))), (4, .int (nI (x0 - cN (okq σ) (q + 1)))), (6, .int (nI 0)), (0, .ref (fa g 239)), (1, .int (nI x0)), (2, .int (nI p0)), (3, .int (nI (mM σ)))]) hx hb dX8_world_85 hl (k := 6) rfl (nI_1 _) (by decide) rfl (fun ls hl => ?_)
          refine lv_goto (tgt := 25) hx hb dX8_world_88 (by decide) ?_
          have MA9 : MA g ct_5 (mkz (z1 0) (z1 1) (z1 2) (z1 3) (z1 4) (z1 5) (z1 6) (z1 7) (z1 8) (z1 9)) (mkF (F1 0) (F1 1) (F1 2) (F1 3) (F1 4) fw_6 (F1 6) (F1 7) (F1 8)) := ⟨m_12o, m_12r0, m_12r1, m_12r2, m_12r3, m_12r4, m_12r5, m_12r6, m_12r7, m_12r8⟩
          exact ih (q + 1) _ _ ls _ (by (try dsimp only); omega) ⟨lv_sub hl [3, 4, 5, 6, 1, 0] rfl, ⟨_, _, MA9, ⟨by omega, hI.2.1, by rw [cN_f (Bool.eq_false_iff.mpr (fun y => c_43 ((wr_ok hk20).mpr y)))]; exact hI.2.2⟩, (show fSame 239 249 _ _ from fSame.tr hsm (fSame.ap fSame.rf ew_7 (by omega) (by omega)))⟩⟩ hP hS
        · refine lv_iconst (v := (nI 1)) hx hb dX8_world_46 (by decide) ?_
          refine lv_goto (tgt := 51) hx hb dX8_world_47 (by decide) ?_
          refine lv_istore (lv' := [(6, .int (nI 1)), (0, .ref (fa g 239)), (1, .int (nI x0)), (2, .int (nI p0)), (3, .int (nI (mM σ))), (4, .int (nI (x0 - cN (okq σ) q))), (5, .int (nI q))]) hx hb dX8_world_51 hl (by decide) rfl (fun ls hl => ?_)
          refine lv_iload hx hb dX8_world_53 (lv_at hl 0 rfl) ?_
          refine lv_if_eq (tgt := 70) hx hb dX8_world_55 (by decide) (fun c_55 => ?_) (fun c_55 => ?_)
          · exact absurd c_55 (by decide)
          refine lv_iload hx hb dX8_world_58 (lv_at hl 5 rfl) ?_
          refine lv_if_ne (tgt := 70) hx hb dX8_world_60 (by decide) (fun c_60 => ?_) (fun c_60 => ?_)
          · rw [fz_eqN (by omega)] at c_60
            refine lv_iload hx hb dX8_world_70 (lv_at hl 5 rfl) ?_
            refine lv_iload hx hb dX8_world_72 (lv_at hl 0 rfl) ?_
            refine lv_if_eq (tgt := 81) hx hb dX8_world_74 (by decide) (fun c_74 => ?_) (fun c_74 => ?_)
            · exact absurd c_74 (by decide)
            refine lv_iconst (v := (nI 1)) hx hb dX8_world_77 (by decide) ?_
            refine lv_goto (tgt := 82) hx hb dX8_world_78 (by decide) ?_
            refine lv_isub hx hb dX8_world_82 ?_
            refine fs_vi (y := (nI (x0 - cN (okq σ) (q + 1)))) (by rw [cN_t ((wr_ok hk20).mp c_43), pk_sub (by omega)]; exact congrArg nI (by omega)) ?_
            refine lv_istore (lv' := [(4, .int (nI (x0 - cN (okq σ) (q + 1)))), (6, .int (nI 1)), (0, .ref (fa g 239)), (1, .int (nI x0)), (2, .int (nI p0)), (3, .int (nI (mM σ))), (5, .int (nI q))]) hx hb dX8_world_83 hl (by decide) rfl (fun ls hl => ?_)
            refine lv_iinc (v := (nI (q + 1))) (lv' := [(5, .int (nI (q + 1))), (4, .int (nI (x0 - cN (okq σ) (q + 1)))), (6, .int (nI 1)), (0, .ref (fa g 239)), (1, .int (nI x0)), (2, .int (nI p0)), (3, .int (nI (mM σ)))]) hx hb dX8_world_85 hl (k := 6) rfl (nI_1 _) (by decide) rfl (fun ls hl => ?_)
            refine lv_goto (tgt := 25) hx hb dX8_world_88 (by decide) ?_
            have MA9 : MA g ct_5 (mkz (z1 0) (z1 1) (z1 2) (z1 3) (z1 4) (z1 5) (z1 6) (z1 7) (z1 8) (z1 9)) (mkF (F1 0) (F1 1) (F1 2) (F1 3) (F1 4) fw_6 (F1 6) (F1 7) (F1 8)) := ⟨m_12o, m_12r0, m_12r1, m_12r2, m_12r3, m_12r4, m_12r5, m_12r6, m_12r7, m_12r8⟩
            exact ih (q + 1) _ _ ls _ (by (try dsimp only); omega) ⟨lv_sub hl [3, 4, 5, 6, 1, 0] rfl, ⟨_, _, MA9, ⟨by omega, hI.2.1, by rw [cN_t ((wr_ok hk20).mp c_43)]; omega⟩, (show fSame 239 249 _ _ from fSame.tr hsm (fSame.ap fSame.rf ew_7 (by omega) (by omega)))⟩⟩ hP hS
          · rw [fz_eqN (by omega)] at c_60
            refine lv_aload_n hx hb dX8_world_63 rfl (lv_at hl 1 rfl) ?_
            refine fs_get E hP (k := 239) (v := .ref (fa g 245)) 7 fc8 m_12o (by omega) (by decide) (wm wl_5 (i := 5) rfl) rfl dX8_world_64 ?_
            refine lv_iload_n hx hb dX8_world_67 rfl (lv_at hl 3 rfl) ?_
            refine fs_iald E hP (k := 245) m_12r5 (by omega) (vp_in_nI (by omega) (by omega)) dX8_world_68 ?_
            refine fs_vi (y := fw_6 p0) (congrArg fw_6 (nI_clamp (by omega))) ?_
            refine fs_vi (y := (nI (wd (nB σ) q p0))) (hW_9 p0 hp0) ?_
            have MA8 : MA g ct_5 (mkz (z1 0) (z1 1) (z1 2) (z1 3) (z1 4) (z1 5) (z1 6) (z1 7) (z1 8) (z1 9)) (mkF (F1 0) (F1 1) (F1 2) (F1 3) (F1 4) fw_6 (F1 6) (F1 7) (F1 8)) := ⟨m_12o, m_12r0, m_12r1, m_12r2, m_12r3, m_12r4, m_12r5, m_12r6, m_12r7, m_12r8⟩
            refine fs_iret E hr hlk hP hS dX8_world_69 ?_
            rw [nI_cl (show p0 < 1000000 by omega)]
            refine ⟨?_, RFAt.kk hT hH hS9 hQ MA8 hI.2.1, (show fSame 239 249 _ _ from fSame.tr hsm (fSame.ap fSame.rf ew_7 (by omega) (by omega)))⟩
            rw [if_pos c_9, wlF_hit (q := q) (by omega) (by omega) ((wr_ok hk20).mp c_43) (congrArg nI (by omega))]
    · have c_9 := (fb_0 p_6).mp c_9
      refine lv_iconst (v := (-1)) hx hb dX8_world_12 (by decide) ?_
      refine fs_iret E hr hlk hP hS dX8_world_13 ?_
      refine ⟨?_, hR, fSame.rf⟩
      rw [if_neg c_9]

set_option maxRecDepth 100000 in
set_option maxHeartbeats 4000000 in
theorem c_X8_mostWatched (l : Launch) (g : fG) (N : Nat) (ct : Nat → va_E) (σ : Nat → Int32) (k : Nat) (hs : Nat → Nat → Int32) (u1 : Bool) (s1 : Nat → Int32) (u2 : Bool) (s2 : Nat → Int32) (t : Nat → Nat) (len : Nat) (hN : 249 ≤ N) (hG : Good σ) (hR : RFAt g ct σ k hs u1 s1 u2 s2 t len) (x : Int32) : Met l yX8_mostWatched (wsU yX8_mostWatched cX8_mostWatched 2 (some .int)) rX8_mostWatched (fPre g N ct [.ref (fa g 239), .int x]) (fQi g N (fun r ct1 => r = (if x = 0 ∨ x = nI 1 then mwR σ x else -2) ∧ RFAt g ct1 σ k hs u1 s1 u2 s2 t len ∧ fSame 239 249 ct ct1)) 0 0 (fB g) := by
  refine fs_start (own := RX8) (lv0 := [(0, .ref (fa g 239)), (1, .int x)]) (by decide) rfl (Nat.le_of_ble_eq_true rfl) rfl ?_
  intro p e s m args below meth c ls E hr hlk hnm hP hl hS
  have hx := E.1.1
  have hb := E.1.2.1
  obtain ⟨z, F, hM, hT, hH, hS9, hQ⟩ := id hR
  have m_1o : ct 239 = .inr (8, [.ref (fa g 240), .ref (fa g 241), .int (z 0), .ref (fa g 242), .ref (fa g 243), .ref (fa g 244), .int (z 1), .ref (fa g 245), .int (z 2), .ref (fa g 246), .ref (fa g 247), .ref (fa g 248), .int (z 3), .int (z 4), .int (z 5), .int (z 6), .int (z 7), .int (z 8), .int (z 9)]) := (hM).1
  have m_1r0 : ct 240 = .inl (fcI g, 121, .inl (F 0)) := (hM).2.1
  have m_1r1 : ct 241 = .inl (fcI g, 726, .inl (F 1)) := (hM).2.2.1
  have m_1r2 : ct 242 = .inl (fcI g, 242, .inl (F 2)) := (hM).2.2.2.1
  have m_1r3 : ct 243 = .inl (fcI g, 2, .inl (F 3)) := (hM).2.2.2.2.1
  have m_1r4 : ct 244 = .inl (fcI g, 60, .inl (F 4)) := (hM).2.2.2.2.2.1
  have m_1r5 : ct 245 = .inl (fcI g, 6, .inl (F 5)) := (hM).2.2.2.2.2.2.1
  have m_1r6 : ct 246 = .inl (fcI g, 36, .inl (F 6)) := (hM).2.2.2.2.2.2.2.1
  have m_1r7 : ct 247 = .inl (fcI g, 20, .inl (F 7)) := (hM).2.2.2.2.2.2.2.2.1
  have m_1r8 : ct 248 = .inl (fcI g, 20, .inl (F 8)) := (hM).2.2.2.2.2.2.2.2.2
  have hn3 := hG.n3
  have hn6 := hG.n6
  have hk20 := hG.k
  have hWl := Wn_le hG
  refine lv_iload_n hx hb dX8_mostWatched_0 rfl (lv_at hl 1 rfl) ?_
  refine lv_iconst (v := (nI 0)) hx hb dX8_mostWatched_1 (by decide) ?_
  refine lv_iconst (v := (nI 1)) hx hb dX8_mostWatched_2 (by decide) ?_
  refine fs_pi (va_runS (As := [.int x, .int (nI 0), .int (nI 1)]) (rest := []) E.1 (c_X8_within l g N ct x (nI 0) (nI 1)) (lk_RX8_49 E.1.2.2.2.2 ⟨Nat.le_of_ble_eq_true rfl, Nat.le_of_ble_eq_true rfl⟩) (fpreS E hP hS) rfl rfl hl.1 rfl (lv_room (Nat.le_of_ble_eq_true rfl)) dX8_mostWatched_3 ⟨Nat.zero_le _, Nat.zero_le _⟩) hS (fun r_3 locs p_3 hS => ?_)
  refine lv_if_ne (tgt := 12) hx hb dX8_mostWatched_6 (by decide) (fun c_6 => ?_) (fun c_6 => ?_)
  · have c_6 := (fb_1 p_3).mp c_6
    refine lv_aload_n hx hb dX8_mostWatched_12 rfl (lv_at hl 0 rfl) ?_
    refine fs_v (va_runV (As := []) (rest := []) E.1 (c_X8_goThrough l g N ct z F σ (by omega) hG hM hT) (lk_RX8_102 E.1.2.2.2.2 ⟨Nat.le_of_ble_eq_true rfl, Nat.le_of_ble_eq_true rfl⟩) (fpreV E hP hS fc8 m_1o (by omega)) rfl rfl hl.1 rfl (lv_room (Nat.le_of_ble_eq_true rfl)) dX8_mostWatched_13 ⟨Nat.zero_le _, Nat.zero_le _⟩) hS (fun ct_2 H locs p_13 hP hS => ?_)
    obtain ⟨z_3, F_4, M_5, K_6, C_7, S_8⟩ := p_13
    have T_9 := KK.sr K_6 hT
    have m_10o : ct_2 239 = .inr (8, [.ref (fa g 240), .ref (fa g 241), .int (z_3 0), .ref (fa g 242), .ref (fa g 243), .ref (fa g 244), .int (z_3 1), .ref (fa g 245), .int (z_3 2), .ref (fa g 246), .ref (fa g 247), .ref (fa g 248), .int (z_3 3), .int (z_3 4), .int (z_3 5), .int (z_3 6), .int (z_3 7), .int (z_3 8), .int (z_3 9)]) := (M_5).1
    have m_10r0 : ct_2 240 = .inl (fcI g, 121, .inl (F_4 0)) := (M_5).2.1
    have m_10r1 : ct_2 241 = .inl (fcI g, 726, .inl (F_4 1)) := (M_5).2.2.1
    have m_10r2 : ct_2 242 = .inl (fcI g, 242, .inl (F_4 2)) := (M_5).2.2.2.1
    have m_10r3 : ct_2 243 = .inl (fcI g, 2, .inl (F_4 3)) := (M_5).2.2.2.2.1
    have m_10r4 : ct_2 244 = .inl (fcI g, 60, .inl (F_4 4)) := (M_5).2.2.2.2.2.1
    have m_10r5 : ct_2 245 = .inl (fcI g, 6, .inl (F_4 5)) := (M_5).2.2.2.2.2.2.1
    have m_10r6 : ct_2 246 = .inl (fcI g, 36, .inl (F_4 6)) := (M_5).2.2.2.2.2.2.2.1
    have m_10r7 : ct_2 247 = .inl (fcI g, 20, .inl (F_4 7)) := (M_5).2.2.2.2.2.2.2.2.1
    have m_10r8 : ct_2 248 = .inl (fcI g, 20, .inl (F_4 8)) := (M_5).2.2.2.2.2.2.2.2.2
    refine lv_aload_n hx hb dX8_mostWatched_16 rfl (lv_at hl 0 rfl) ?_
    refine fs_get E hP (k := 239) (v := .int (z_3 2)) 8 fc8 m_10o (by omega) (by decide) (wm wl_21 (i := 7) rfl) rfl dX8_mostWatched_17 ?_
    refine fs_vi (y := nI (Wn σ)) C_7.1 ?_
    refine lv_if_ne (tgt := 28) hx hb dX8_mostWatched_20 (by decide) (fun c_20 => ?_) (fun c_20 => ?_)
    · rw [fz_eqN (by omega)] at c_20
      refine lv_iload_n hx hb dX8_mostWatched_28 rfl (lv_at hl 1 rfl) ?_
      refine lv_if_ne (tgt := 39) hx hb dX8_mostWatched_29 (by decide) (fun c_29 => ?_) (fun c_29 => ?_)
      · refine lv_aload_n hx hb dX8_mostWatched_39 rfl (lv_at hl 0 rfl) ?_
        refine fs_get E hP (k := 239) (v := .int (z_3 4)) 13 fc8 m_10o (by omega) (by decide) (wm wl_21 (i := 17) rfl) rfl dX8_mostWatched_40 ?_
        have hq2 := (mwQ_pos hG (mM σ)).1 (show 0 < Wn σ by omega)
        refine fs_vi (y := nI (mwQ σ (mM σ)).2) ((C_7.2.2.2.2.2 (by omega)).2) ?_
        refine fs_iret E hr hlk hP hS dX8_mostWatched_43 ?_
        refine ⟨?_, RFAt.kk hT hH hS9 hQ M_5 K_6, (show fSame 239 249 _ _ from (fSame.tr2 fSame.rf S_8 (by omega) (by omega)))⟩
        rw [if_pos (w01.mp c_6), mwR, if_neg (by have := (mwQ_pos hG (mM σ)).1 (show 0 < Wn σ by omega); omega), if_neg c_29]
      · refine lv_aload_n hx hb dX8_mostWatched_32 rfl (lv_at hl 0 rfl) ?_
        refine fs_get E hP (k := 239) (v := .int (z_3 3)) 12 fc8 m_10o (by omega) (by decide) (wm wl_21 (i := 16) rfl) rfl dX8_mostWatched_33 ?_
        have hq2 := (mwQ_pos hG (mM σ)).1 (show 0 < Wn σ by omega)
        refine fs_vi (y := nI (mwQ σ (mM σ)).1) ((C_7.2.2.2.2.2 (by omega)).1) ?_
        refine lv_goto (tgt := 43) hx hb dX8_mostWatched_36 (by decide) ?_
        refine fs_iret E hr hlk hP hS dX8_mostWatched_43 ?_
        refine ⟨?_, RFAt.kk hT hH hS9 hQ M_5 K_6, (show fSame 239 249 _ _ from (fSame.tr2 fSame.rf S_8 (by omega) (by omega)))⟩
        rw [if_pos (w01.mp c_6), mwR, if_neg (by have := (mwQ_pos hG (mM σ)).1 (show 0 < Wn σ by omega); omega), if_pos c_29]
    · rw [fz_eqN (by omega)] at c_20
      refine lv_bipush (v := (-6)) hx hb dX8_mostWatched_23 (by decide) ?_
      refine lv_goto (tgt := 43) hx hb dX8_mostWatched_25 (by decide) ?_
      refine fs_iret E hr hlk hP hS dX8_mostWatched_43 ?_
      refine ⟨?_, RFAt.kk hT hH hS9 hQ M_5 K_6, (show fSame 239 249 _ _ from (fSame.tr2 fSame.rf S_8 (by omega) (by omega)))⟩
      rw [if_pos (w01.mp c_6), mwR, if_pos (by rw [((mwQ_pos hG (mM σ)).2 c_20)])]
  · have c_6 := (fb_0 p_3).mp c_6
    refine lv_bipush (v := (-2)) hx hb dX8_mostWatched_9 (by decide) ?_
    refine fs_iret E hr hlk hP hS dX8_mostWatched_11 ?_
    refine ⟨?_, hR, fSame.rf⟩
    rw [if_neg (fun y => c_6 (w01.mpr y))]
