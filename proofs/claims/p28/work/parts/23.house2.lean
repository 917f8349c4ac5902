theorem rum_in {g : fG} {h i kt : Nat} {r : Value} (q : (∃ j, j < kt ∧ nI i = nI j ∧ r = .ref (fa g (h + 5 + j))) ∨ (((nI i).toInt < 0 ∨ (kt : Int) ≤ (nI i).toInt) ∧ r = .null)) (hi : i < kt) (hk : kt ≤ 20) : r = .ref (fa g (h + 5 + i)) := by
  rcases q with ⟨j, hj, e, rfl⟩ | ⟨h2, -⟩
  · rw [nI_eq (by omega) (by omega)] at e; rw [e]
  · rw [nI_toInt (by omega)] at h2; omega
theorem Good.wok {σ : Nat → Int32} (h : Good σ) : Wok (nB σ) (lkf σ) := fun p hp => (h.2.2.1 p hp).2.1
theorem Good.r {σ : Nat → Int32} (h : Good σ) {i : Nat} (hi : i < nT σ) : rOK σ i := h.2.2.2.2 i hi
theorem Good.k {σ : Nat → Int32} (h : Good σ) : nT σ ≤ 20 := h.2.1.2
theorem Good.n3 {σ : Nat → Int32} (h : Good σ) : 3 ≤ nB σ := h.1.2.1
theorem Good.n6 {σ : Nat → Int32} (h : Good σ) : nB σ ≤ 6 := h.1.2.2
theorem okk.lt {n kd a b : Nat} (h : okk n kd a b) (hn : n ≤ 6) : kd < 6 ∧ a < 6 ∧ b < 7 := by
  obtain ⟨h1, h2, h3, h4⟩ := h
  refine ⟨by omega, by omega, ?_⟩
  rcases Decidable.em (kd = 4) with q | q
  · have := h3 q; omega
  · have := (h4 q).1; omega

set_option maxRecDepth 100000 in
set_option maxHeartbeats 4000000 in
theorem c_X1_isOpen (l : Launch) (g : fG) (N : Nat) (ct : Nat → va_E) (h : Nat) (σ : Nat → Int32) (i : Nat) (hN : h + 25 ≤ N) (hG : Good σ) (hH : HouseAt g ct h σ) (hi : i < nT σ) : Met l yX1_isOpen (wsU yX1_isOpen cX1_isOpen 3 (some .boolean)) rX1_isOpen (fPre g N ct [.ref (fa g h), .int (nI i)]) (fQpi (fun r => r = bI (rk σ i 4 = 0))) 0 0 (fB g) := by
  refine fs_start (own := RX1) (lv0 := [(0, .ref (fa g h)), (1, .int (nI i))]) (by decide) rfl (Nat.le_of_ble_eq_true rfl) rfl ?_
  intro p e s m args below meth c ls E hr hlk hnm hP hl hS
  have hx := E.1.1
  have hb := E.1.2.1
  have hG20 := hG.k
  have hG3 := hG.n3
  have hG6 := hG.n6
  obtain ⟨hc0, ⟨f1, hc1, hf1⟩, ⟨f2, hc2, hf2⟩, ⟨f3, hc3, hf3⟩, ⟨f4, hc4, hf4⟩, hc5⟩ := id hH
  refine lv_aload_n hx hb dX1_isOpen_0 rfl (lv_at hl 0 rfl) ?_
  refine lv_iload_n hx hb dX1_isOpen_1 rfl (lv_at hl 1 rfl) ?_
  refine fs_pr (va_runV (As := [.int (nI i)]) (rest := []) E.1 (c_X1_rumourAt l g N ct h (nT σ) (nI (nB σ)) (σ 2) f4 (nI i) (by omega) (by omega) hc0 hc4 hf4) (lk_RX1_46 E.1.2.2.2.2 ⟨Nat.le_of_ble_eq_true rfl, Nat.le_of_ble_eq_true rfl⟩) (fpreV E hP hS fc1 hc0 (by omega)) rfl rfl hl.1 rfl (lv_room (Nat.le_of_ble_eq_true rfl)) dX1_isOpen_2 ⟨Nat.zero_le _, Nat.zero_le _⟩) hS (fun r_2 locs p_2 hS => ?_)
  refine fs_vv (y := .ref (fa g (h + 5 + i))) (rum_in p_2 hi hG20) ?_
  obtain ⟨te9, kd9, a9, b9, st9, hr0, hr1⟩ := hc5 i (by omega)
  obtain ⟨rfl, rfl, rfl, rfl, rfl⟩ := hr1 hi
  obtain ⟨hrA, hrB, hrC, hrD⟩ := hG.r hi
  obtain ⟨hrE, hrF, hrH⟩ := hrC.lt hG6
  refine lv_astore_n (lv' := [(2, .ref (fa g (h + 5 + i))), (0, .ref (fa g h)), (1, .int (nI i))]) hx hb dX1_isOpen_5 rfl hl (by decide) rfl (fun ls hl => ?_)
  refine lv_aload_n hx hb dX1_isOpen_6 rfl (lv_at hl 0 rfl) ?_
  refine lv_ifnull hx hb dX1_isOpen_7 ?_
  refine lv_aload_n hx hb dX1_isOpen_10 rfl (lv_at hl 0 rfl) ?_
  refine fs_getN E hP (k := (h + 5 + i)) (v := .int (nI (rk σ i 4))) 4 fc3 hr0 (by omega) (by decide) (j := 6) rfl rfl dX1_isOpen_11 ?_
  refine lv_if_ne (tgt := 21) hx hb dX1_isOpen_14 (by decide) (fun c_14 => ?_) (fun c_14 => ?_)
  · rw [fz_eqN (by omega)] at c_14
    refine lv_iconst (v := (nI 0)) hx hb dX1_isOpen_21 (by decide) ?_
    refine fs_pzret E hr rfl hlk hS dX1_isOpen_22 ?_
    exact bI_f (by omega)
  · rw [fz_eqN (by omega)] at c_14
    refine lv_iconst (v := (nI 1)) hx hb dX1_isOpen_17 (by decide) ?_
    refine lv_goto (tgt := 22) hx hb dX1_isOpen_18 (by decide) ?_
    refine fs_pzret E hr rfl hlk hS dX1_isOpen_22 ?_
    exact bI_t (by omega)

set_option maxRecDepth 100000 in
set_option maxHeartbeats 4000000 in
theorem c_X1_isTrue (l : Launch) (g : fG) (N : Nat) (ct : Nat → va_E) (h : Nat) (σ : Nat → Int32) (i : Nat) (hN : h + 25 ≤ N) (hG : Good σ) (hH : HouseAt g ct h σ) (hi : i < nT σ) : Met l yX1_isTrue (wsU yX1_isTrue cX1_isTrue 3 (some .boolean)) rX1_isTrue (fPre g N ct [.ref (fa g h), .int (nI i)]) (fQpi (fun r => r = bI (hdr σ (lkf σ) i = true))) 0 0 (fB g) := by
  refine fs_start (own := RX1) (lv0 := [(0, .ref (fa g h)), (1, .int (nI i))]) (by decide) rfl (Nat.le_of_ble_eq_true rfl) rfl ?_
  intro p e s m args below meth c ls E hr hlk hnm hP hl hS
  have hx := E.1.1
  have hb := E.1.2.1
  have hG20 := hG.k
  have hG3 := hG.n3
  have hG6 := hG.n6
  obtain ⟨hc0, ⟨f1, hc1, hf1⟩, ⟨f2, hc2, hf2⟩, ⟨f3, hc3, hf3⟩, ⟨f4, hc4, hf4⟩, hc5⟩ := id hH
  refine lv_aload_n hx hb dX1_isTrue_0 rfl (lv_at hl 0 rfl) ?_
  refine lv_iload_n hx hb dX1_isTrue_1 rfl (lv_at hl 1 rfl) ?_
  refine fs_pr (va_runV (As := [.int (nI i)]) (rest := []) E.1 (c_X1_rumourAt l g N ct h (nT σ) (nI (nB σ)) (σ 2) f4 (nI i) (by omega) (by omega) hc0 hc4 hf4) (lk_RX1_46 E.1.2.2.2.2 ⟨Nat.le_of_ble_eq_true rfl, Nat.le_of_ble_eq_true rfl⟩) (fpreV E hP hS fc1 hc0 (by omega)) rfl rfl hl.1 rfl (lv_room (Nat.le_of_ble_eq_true rfl)) dX1_isTrue_2 ⟨Nat.zero_le _, Nat.zero_le _⟩) hS (fun r_2 locs p_2 hS => ?_)
  refine fs_vv (y := .ref (fa g (h + 5 + i))) (rum_in p_2 hi hG20) ?_
  obtain ⟨te9, kd9, a9, b9, st9, hr0, hr1⟩ := hc5 i (by omega)
  obtain ⟨rfl, rfl, rfl, rfl, rfl⟩ := hr1 hi
  obtain ⟨hrA, hrB, hrC, hrD⟩ := hG.r hi
  obtain ⟨hrE, hrF, hrH⟩ := hrC.lt hG6
  refine lv_astore_n (lv' := [(2, .ref (fa g (h + 5 + i))), (0, .ref (fa g h)), (1, .int (nI i))]) hx hb dX1_isTrue_5 rfl hl (by decide) rfl (fun ls hl => ?_)
  refine lv_aload_n hx hb dX1_isTrue_6 rfl (lv_at hl 0 rfl) ?_
  refine lv_ifnull hx hb dX1_isTrue_7 ?_
  refine lv_aload_n hx hb dX1_isTrue_10 rfl (lv_at hl 0 rfl) ?_
  refine lv_aload_n hx hb dX1_isTrue_11 rfl (lv_at hl 1 rfl) ?_
  refine fs_get E hP (k := h) (v := .ref (fa g (h + 1))) 3 fc1 hc0 (by omega) (by decide) (wm wl_2 (i := 11) rfl) rfl dX1_isTrue_12 ?_
  refine fs_pi (va_runV (As := [.ref (fa g (h + 1))]) (rest := []) E.1 (c_X3_holdsIn l g N ct (h + 5 + i) (h + 1) (nI (rk σ i 0)) (nI (rk σ i 4)) (nB σ) (rk σ i 1) (rk σ i 2) (rk σ i 3) f1 (lkf σ) (by omega) (by omega) hG6 hrC hf1 hG.wok hr0 hc1) (lk_RX1_71 E.1.2.2.2.2 ⟨Nat.le_of_ble_eq_true rfl, Nat.le_of_ble_eq_true rfl⟩) (fpreV E hP hS fc3 hr0 (by omega)) rfl rfl hl.1 rfl (lv_room (Nat.le_of_ble_eq_true rfl)) dX1_isTrue_15 ⟨Nat.zero_le _, Nat.zero_le _⟩) hS (fun r_15 locs p_15 hS => ?_)
  refine lv_if_eq (tgt := 25) hx hb dX1_isTrue_18 (by decide) (fun c_18 => ?_) (fun c_18 => ?_)
  · have c_18 := (fb_0 p_15).mp c_18
    refine lv_iconst (v := (nI 0)) hx hb dX1_isTrue_25 (by decide) ?_
    refine fs_pzret E hr rfl hlk hS dX1_isTrue_26 ?_
    exact bI_f c_18
  · have c_18 := (fb_1 p_15).mp c_18
    refine lv_iconst (v := (nI 1)) hx hb dX1_isTrue_21 (by decide) ?_
    refine lv_goto (tgt := 26) hx hb dX1_isTrue_22 (by decide) ?_
    refine fs_pzret E hr rfl hlk hS dX1_isTrue_26 ?_
    exact bI_t c_18

set_option maxRecDepth 100000 in
set_option maxHeartbeats 4000000 in
theorem c_X1_tellerOf (l : Launch) (g : fG) (N : Nat) (ct : Nat → va_E) (h : Nat) (σ : Nat → Int32) (i : Nat) (hN : h + 25 ≤ N) (hG : Good σ) (hH : HouseAt g ct h σ) (hi : i < nT σ) : Met l yX1_tellerOf (wsU yX1_tellerOf cX1_tellerOf 3 (some .int)) rX1_tellerOf (fPre g N ct [.ref (fa g h), .int (nI i)]) (fQpi (fun r => r = nI (rk σ i 0))) 0 0 (fB g) := by
  refine fs_start (own := RX1) (lv0 := [(0, .ref (fa g h)), (1, .int (nI i))]) (by decide) rfl (Nat.le_of_ble_eq_true rfl) rfl ?_
  intro p e s m args below meth c ls E hr hlk hnm hP hl hS
  have hx := E.1.1
  have hb := E.1.2.1
  have hG20 := hG.k
  have hG3 := hG.n3
  have hG6 := hG.n6
  obtain ⟨hc0, ⟨f1, hc1, hf1⟩, ⟨f2, hc2, hf2⟩, ⟨f3, hc3, hf3⟩, ⟨f4, hc4, hf4⟩, hc5⟩ := id hH
  refine lv_aload_n hx hb dX1_tellerOf_0 rfl (lv_at hl 0 rfl) ?_
  refine lv_iload_n hx hb dX1_tellerOf_1 rfl (lv_at hl 1 rfl) ?_
  refine fs_pr (va_runV (As := [.int (nI i)]) (rest := []) E.1 (c_X1_rumourAt l g N ct h (nT σ) (nI (nB σ)) (σ 2) f4 (nI i) (by omega) (by omega) hc0 hc4 hf4) (lk_RX1_46 E.1.2.2.2.2 ⟨Nat.le_of_ble_eq_true rfl, Nat.le_of_ble_eq_true rfl⟩) (fpreV E hP hS fc1 hc0 (by omega)) rfl rfl hl.1 rfl (lv_room (Nat.le_of_ble_eq_true rfl)) dX1_tellerOf_2 ⟨Nat.zero_le _, Nat.zero_le _⟩) hS (fun r_2 locs p_2 hS => ?_)
  refine fs_vv (y := .ref (fa g (h + 5 + i))) (rum_in p_2 hi hG20) ?_
  obtain ⟨te9, kd9, a9, b9, st9, hr0, hr1⟩ := hc5 i (by omega)
  obtain ⟨rfl, rfl, rfl, rfl, rfl⟩ := hr1 hi
  obtain ⟨hrA, hrB, hrC, hrD⟩ := hG.r hi
  obtain ⟨hrE, hrF, hrH⟩ := hrC.lt hG6
  refine lv_astore_n (lv' := [(2, .ref (fa g (h + 5 + i))), (0, .ref (fa g h)), (1, .int (nI i))]) hx hb dX1_tellerOf_5 rfl hl (by decide) rfl (fun ls hl => ?_)
  refine lv_aload_n hx hb dX1_tellerOf_6 rfl (lv_at hl 0 rfl) ?_
  refine lv_ifnull hx hb dX1_tellerOf_7 ?_
  refine lv_aload_n hx hb dX1_tellerOf_10 rfl (lv_at hl 0 rfl) ?_
  refine fs_getN E hP (k := (h + 5 + i)) (v := .int (nI (rk σ i 0))) 0 fc3 hr0 (by omega) (by decide) (j := 1) rfl rfl dX1_tellerOf_11 ?_
  refine lv_goto (tgt := 18) hx hb dX1_tellerOf_14 (by decide) ?_
  refine fs_piret E hr hlk hS dX1_tellerOf_18 ?_
  rfl

set_option maxRecDepth 100000 in
set_option maxHeartbeats 4000000 in
theorem c_X1_openRumours (l : Launch) (g : fG) (N : Nat) (ct : Nat → va_E) (h : Nat) (σ : Nat → Int32) (hN : h + 25 ≤ N) (hG : Good σ) (hH : HouseAt g ct h σ) : Met l yX1_openRumours (wsU yX1_openRumours cX1_openRumours 3 (some .int)) rX1_openRumours (fPre g N ct [.ref (fa g h)]) (fQpi (fun r => r = nI (cN (fun i => decide (rk σ i 4 = 0)) (nT σ)))) 0 0 (fB g) := by
  refine fs_start (own := RX1) (lv0 := [(0, .ref (fa g h))]) (by decide) rfl (Nat.le_of_ble_eq_true rfl) rfl ?_
  intro p e s m args below meth c ls E hr hlk hnm hP hl hS
  have hx := E.1.1
  have hb := E.1.2.1
  have hG20 := hG.k
  have hG3 := hG.n3
  have hG6 := hG.n6
  obtain ⟨hc0, ⟨f1, hc1, hf1⟩, ⟨f2, hc2, hf2⟩, ⟨f3, hc3, hf3⟩, ⟨f4, hc4, hf4⟩, hc5⟩ := id hH
  refine lv_iconst (v := (nI 0)) hx hb dX1_openRumours_0 (by decide) ?_
  refine lv_istore_n (lv' := [(1, .int (nI 0)), (0, .ref (fa g h))]) hx hb dX1_openRumours_1 rfl hl (by decide) rfl (fun ls hl => ?_)
  refine lv_iconst (v := (nI 0)) hx hb dX1_openRumours_2 (by decide) ?_
  refine lv_istore_n (lv' := [(2, .int (nI 0)), (1, .int (nI 0)), (0, .ref (fa g h))]) hx hb dX1_openRumours_3 rfl hl (by decide) rfl (fun ls hl => ?_)
  refine fs_indP (g := g) (St := Nat) (fun (i : Nat) (ls : Array Slot) => lv_has ls 3 [(0, .ref (fa g h)), (1, .int (nI (cN (fun i => decide (rk σ i 4 = 0)) i))), (2, .int (nI i))] ∧ i ≤ nT σ) (fun (i : Nat) => nT σ - i) ?_ 0 ls _ ⟨lv_sub hl [2, 1, 0] rfl, Nat.zero_le _⟩ hS
  clear hl hS
  intro st ls locs hI hS ih
  obtain ⟨i, rfl⟩ : ∃ z, z = st := ⟨_, rfl⟩
  obtain ⟨hl, hI⟩ := hI
  refine lv_iload_n hx hb dX1_openRumours_4 rfl (lv_at hl 2 rfl) ?_
  refine lv_aload_n hx hb dX1_openRumours_5 rfl (lv_at hl 0 rfl) ?_
  refine fs_get E hP (k := h) (v := .int (nI (nT σ))) 2 fc1 hc0 (by omega) (by decide) (wm wl_4 (i := 13) rfl) rfl dX1_openRumours_6 ?_
  refine lv_icmp_ge (tgt := 29) hx hb dX1_openRumours_9 (by decide) (fun c_9 => ?_) (fun c_9 => ?_)
  · rw [nI_leI (by omega) (by omega)] at c_9
    refine lv_iload_n hx hb dX1_openRumours_29 rfl (lv_at hl 1 rfl) ?_
    refine fs_piret E hr hlk hS dX1_openRumours_30 ?_
    rw [show nT σ = i by omega]
  · rw [nI_leI (by omega) (by omega)] at c_9
    refine lv_aload_n hx hb dX1_openRumours_12 rfl (lv_at hl 0 rfl) ?_
    refine lv_iload_n hx hb dX1_openRumours_13 rfl (lv_at hl 2 rfl) ?_
    refine fs_pi (va_runV (As := [.int (nI i)]) (rest := []) E.1 (c_X1_isOpen l g N ct h σ i hN hG hH (by omega)) (lk_RX1_65 E.1.2.2.2.2 ⟨Nat.le_of_ble_eq_true rfl, Nat.le_of_ble_eq_true rfl⟩) (fpreV E hP hS fc1 hc0 (by omega)) rfl rfl hl.1 rfl (lv_room (Nat.le_of_ble_eq_true rfl)) dX1_openRumours_14 ⟨Nat.zero_le _, Nat.zero_le _⟩) hS (fun r_14 locs p_14 hS => ?_)
    refine lv_if_eq (tgt := 23) hx hb dX1_openRumours_17 (by decide) (fun c_17 => ?_) (fun c_17 => ?_)
    · have c_17 := (fb_0 p_14).mp c_17
      refine lv_iinc (v := (nI (i + 1))) (lv' := [(2, .int (nI (i + 1))), (0, .ref (fa g h)), (1, .int (nI (cN (fun i => decide (rk σ i 4 = 0)) i)))]) hx hb dX1_openRumours_23 hl (k := 2) rfl (nI_1 _) (by decide) rfl (fun ls hl => ?_)
      refine lv_goto (tgt := 4) hx hb dX1_openRumours_26 (by decide) ?_
      have e9 : nI (cN (fun i => decide (rk σ i 4 = 0)) i) = nI (cN (fun i => decide (rk σ i 4 = 0)) (i + 1)) := by rw [cN_f (decide_eq_false c_17)]
      rw [e9] at hl
      exact ih (i + 1) ls _ (by (try dsimp only); omega) ⟨lv_sub hl [1, 2, 0] rfl, by omega⟩ hS
    · have c_17 := (fb_1 p_14).mp c_17
      refine lv_iinc (v := (nI (cN (fun i => decide (rk σ i 4 = 0)) (i + 1)))) (lv' := [(1, .int (nI (cN (fun i => decide (rk σ i 4 = 0)) (i + 1)))), (0, .ref (fa g h)), (2, .int (nI i))]) hx hb dX1_openRumours_20 hl (k := 1) rfl (by rw [cN_t (decide_eq_true c_17)]; exact nI_1 _) (by decide) rfl (fun ls hl => ?_)
      refine lv_iinc (v := (nI (i + 1))) (lv' := [(2, .int (nI (i + 1))), (1, .int (nI (cN (fun i => decide (rk σ i 4 = 0)) (i + 1)))), (0, .ref (fa g h))]) hx hb dX1_openRumours_23 hl (k := 2) rfl (nI_1 _) (by decide) rfl (fun ls hl => ?_)
      refine lv_goto (tgt := 4) hx hb dX1_openRumours_26 (by decide) ?_
      exact ih (i + 1) ls _ (by (try dsimp only); omega) ⟨lv_sub hl [2, 1, 0] rfl, by omega⟩ hS

set_option maxRecDepth 100000 in
set_option maxHeartbeats 4000000 in
theorem c_X1_toldBy (l : Launch) (g : fG) (N : Nat) (ct : Nat → va_E) (h : Nat) (σ : Nat → Int32) (q : Nat) (hN : h + 25 ≤ N) (hG : Good σ) (hH : HouseAt g ct h σ) (hq : q < 6) : Met l yX1_toldBy (wsU yX1_toldBy cX1_toldBy 4 (some .int)) rX1_toldBy (fPre g N ct [.ref (fa g h), .int (nI q)]) (fQpi (fun r => r = nI (cN (fun i => decide (rk σ i 0 = q)) (nT σ)))) 0 0 (fB g) := by
  refine fs_start (own := RX1) (lv0 := [(0, .ref (fa g h)), (1, .int (nI q))]) (by decide) rfl (Nat.le_of_ble_eq_true rfl) rfl ?_
  intro p e s m args below meth c ls E hr hlk hnm hP hl hS
  have hx := E.1.1
  have hb := E.1.2.1
  have hG20 := hG.k
  have hG3 := hG.n3
  have hG6 := hG.n6
  obtain ⟨hc0, ⟨f1, hc1, hf1⟩, ⟨f2, hc2, hf2⟩, ⟨f3, hc3, hf3⟩, ⟨f4, hc4, hf4⟩, hc5⟩ := id hH
  refine lv_iconst (v := (nI 0)) hx hb dX1_toldBy_0 (by decide) ?_
  refine lv_istore_n (lv' := [(2, .int (nI 0)), (0, .ref (fa g h)), (1, .int (nI q))]) hx hb dX1_toldBy_1 rfl hl (by decide) rfl (fun ls hl => ?_)
  refine lv_iconst (v := (nI 0)) hx hb dX1_toldBy_2 (by decide) ?_
  refine lv_istore_n (lv' := [(3, .int (nI 0)), (2, .int (nI 0)), (0, .ref (fa g h)), (1, .int (nI q))]) hx hb dX1_toldBy_3 rfl hl (by decide) rfl (fun ls hl => ?_)
  refine fs_indP (g := g) (St := Nat) (fun (i : Nat) (ls : Array Slot) => lv_has ls 4 [(0, .ref (fa g h)), (1, .int (nI q)), (2, .int (nI (cN (fun i => decide (rk σ i 0 = q)) i))), (3, .int (nI i))] ∧ i ≤ nT σ) (fun (i : Nat) => nT σ - i) ?_ 0 ls _ ⟨lv_sub hl [2, 3, 1, 0] rfl, Nat.zero_le _⟩ hS
  clear hl hS
  intro st ls locs hI hS ih
  obtain ⟨i, rfl⟩ : ∃ z, z = st := ⟨_, rfl⟩
  obtain ⟨hl, hI⟩ := hI
  refine lv_iload_n hx hb dX1_toldBy_4 rfl (lv_at hl 3 rfl) ?_
  refine lv_aload_n hx hb dX1_toldBy_5 rfl (lv_at hl 0 rfl) ?_
  refine fs_get E hP (k := h) (v := .int (nI (nT σ))) 2 fc1 hc0 (by omega) (by decide) (wm wl_4 (i := 13) rfl) rfl dX1_toldBy_6 ?_
  refine lv_icmp_ge (tgt := 30) hx hb dX1_toldBy_9 (by decide) (fun c_9 => ?_) (fun c_9 => ?_)
  · rw [nI_leI (by omega) (by omega)] at c_9
    refine lv_iload_n hx hb dX1_toldBy_30 rfl (lv_at hl 2 rfl) ?_
    refine fs_piret E hr hlk hS dX1_toldBy_31 ?_
    rw [show nT σ = i by omega]
  · rw [nI_leI (by omega) (by omega)] at c_9
    refine lv_aload_n hx hb dX1_toldBy_12 rfl (lv_at hl 0 rfl) ?_
    refine lv_iload_n hx hb dX1_toldBy_13 rfl (lv_at hl 3 rfl) ?_
    refine fs_pi (va_runV (As := [.int (nI i)]) (rest := []) E.1 (c_X1_tellerOf l g N ct h σ i hN hG hH (by omega)) (lk_RX1_79 E.1.2.2.2.2 ⟨Nat.le_of_ble_eq_true rfl, Nat.le_of_ble_eq_true rfl⟩) (fpreV E hP hS fc1 hc0 (by omega)) rfl rfl hl.1 rfl (lv_room (Nat.le_of_ble_eq_true rfl)) dX1_toldBy_14 ⟨Nat.zero_le _, Nat.zero_le _⟩) hS (fun r_14 locs p_14 hS => ?_)
    refine fs_vi (y := (nI (rk σ i 0))) p_14 ?_
    have hte := (hG.r (i := i) (by omega)).2.1
    refine lv_iload_n hx hb dX1_toldBy_17 rfl (lv_at hl 1 rfl) ?_
    refine lv_icmp_ne (tgt := 24) hx hb dX1_toldBy_18 (by decide) (fun c_18 => ?_) (fun c_18 => ?_)
    · rw [nI_eq (by omega) (by omega)] at c_18
      refine lv_iinc (v := (nI (i + 1))) (lv' := [(3, .int (nI (i + 1))), (0, .ref (fa g h)), (1, .int (nI q)), (2, .int (nI (cN (fun i => decide (rk σ i 0 = q)) i)))]) hx hb dX1_toldBy_24 hl (k := 3) rfl (nI_1 _) (by decide) rfl (fun ls hl => ?_)
      refine lv_goto (tgt := 4) hx hb dX1_toldBy_27 (by decide) ?_
      have e9 : nI (cN (fun i => decide (rk σ i 0 = q)) i) = nI (cN (fun i => decide (rk σ i 0 = q)) (i + 1)) := by rw [cN_f (decide_eq_false c_18)]
      rw [e9] at hl
      exact ih (i + 1) ls _ (by (try dsimp only); omega) ⟨lv_sub hl [1, 2, 3, 0] rfl, by omega⟩ hS
    · rw [nI_eq (by omega) (by omega)] at c_18
      refine lv_iinc (v := (nI (cN (fun i => decide (rk σ i 0 = q)) (i + 1)))) (lv' := [(2, .int (nI (cN (fun i => decide (rk σ i 0 = q)) (i + 1)))), (0, .ref (fa g h)), (1, .int (nI q)), (3, .int (nI i))]) hx hb dX1_toldBy_21 hl (k := 2) rfl (by rw [cN_t (decide_eq_true c_18)]; exact nI_1 _) (by decide) rfl (fun ls hl => ?_)
      refine lv_iinc (v := (nI (i + 1))) (lv' := [(3, .int (nI (i + 1))), (2, .int (nI (cN (fun i => decide (rk σ i 0 = q)) (i + 1)))), (0, .ref (fa g h)), (1, .int (nI q))]) hx hb dX1_toldBy_24 hl (k := 3) rfl (nI_1 _) (by decide) rfl (fun ls hl => ?_)
      refine lv_goto (tgt := 4) hx hb dX1_toldBy_27 (by decide) ?_
      exact ih (i + 1) ls _ (by (try dsimp only); omega) ⟨lv_sub hl [2, 3, 1, 0] rfl, by omega⟩ hS

set_option maxRecDepth 100000 in
set_option maxHeartbeats 4000000 in
theorem c_X1_toldTrulyBy (l : Launch) (g : fG) (N : Nat) (ct : Nat → va_E) (h : Nat) (σ : Nat → Int32) (q : Nat) (hN : h + 25 ≤ N) (hG : Good σ) (hH : HouseAt g ct h σ) (hq : q < 6) : Met l yX1_toldTrulyBy (wsU yX1_toldTrulyBy cX1_toldTrulyBy 4 (some .int)) rX1_toldTrulyBy (fPre g N ct [.ref (fa g h), .int (nI q)]) (fQpi (fun r => r = nI (cN (fun i => decide (rk σ i 0 = q) && hdr σ (lkf σ) i) (nT σ)))) 0 0 (fB g) := by
  refine fs_start (own := RX1) (lv0 := [(0, .ref (fa g h)), (1, .int (nI q))]) (by decide) rfl (Nat.le_of_ble_eq_true rfl) rfl ?_
  intro p e s m args below meth c ls E hr hlk hnm hP hl hS
  have hx := E.1.1
  have hb := E.1.2.1
  have hG20 := hG.k
  have hG3 := hG.n3
  have hG6 := hG.n6
  obtain ⟨hc0, ⟨f1, hc1, hf1⟩, ⟨f2, hc2, hf2⟩, ⟨f3, hc3, hf3⟩, ⟨f4, hc4, hf4⟩, hc5⟩ := id hH
  refine lv_iconst (v := (nI 0)) hx hb dX1_toldTrulyBy_0 (by decide) ?_
  refine lv_istore_n (lv' := [(2, .int (nI 0)), (0, .ref (fa g h)), (1, .int (nI q))]) hx hb dX1_toldTrulyBy_1 rfl hl (by decide) rfl (fun ls hl => ?_)
  refine lv_iconst (v := (nI 0)) hx hb dX1_toldTrulyBy_2 (by decide) ?_
  refine lv_istore_n (lv' := [(3, .int (nI 0)), (2, .int (nI 0)), (0, .ref (fa g h)), (1, .int (nI q))]) hx hb dX1_toldTrulyBy_3 rfl hl (by decide) rfl (fun ls hl => ?_)
  refine fs_indP (g := g) (St := Nat) (fun (i : Nat) (ls : Array Slot) => lv_has ls 4 [(0, .ref (fa g h)), (1, .int (nI q)), (2, .int (nI (cN (fun i => decide (rk σ i 0 = q) && hdr σ (lkf σ) i) i))), (3, .int (nI i))] ∧ i ≤ nT σ) (fun (i : Nat) => nT σ - i) ?_ 0 ls _ ⟨lv_sub hl [2, 3, 1, 0] rfl, Nat.zero_le _⟩ hS
  clear hl hS
  intro st ls locs hI hS ih
  obtain ⟨i, rfl⟩ : ∃ z, z = st := ⟨_, rfl⟩
  obtain ⟨hl, hI⟩ := hI
  refine lv_iload_n hx hb dX1_toldTrulyBy_4 rfl (lv_at hl 3 rfl) ?_
  refine lv_aload_n hx hb dX1_toldTrulyBy_5 rfl (lv_at hl 0 rfl) ?_
  refine fs_get E hP (k := h) (v := .int (nI (nT σ))) 2 fc1 hc0 (by omega) (by decide) (wm wl_4 (i := 13) rfl) rfl dX1_toldTrulyBy_6 ?_
  refine lv_icmp_ge (tgt := 38) hx hb dX1_toldTrulyBy_9 (by decide) (fun c_9 => ?_) (fun c_9 => ?_)
  · rw [nI_leI (by omega) (by omega)] at c_9
    refine lv_iload_n hx hb dX1_toldTrulyBy_38 rfl (lv_at hl 2 rfl) ?_
    refine fs_piret E hr hlk hS dX1_toldTrulyBy_39 ?_
    rw [show nT σ = i by omega]
  · rw [nI_leI (by omega) (by omega)] at c_9
    refine lv_aload_n hx hb dX1_toldTrulyBy_12 rfl (lv_at hl 0 rfl) ?_
    refine lv_iload_n hx hb dX1_toldTrulyBy_13 rfl (lv_at hl 3 rfl) ?_
    refine fs_pi (va_runV (As := [.int (nI i)]) (rest := []) E.1 (c_X1_tellerOf l g N ct h σ i hN hG hH (by omega)) (lk_RX1_79 E.1.2.2.2.2 ⟨Nat.le_of_ble_eq_true rfl, Nat.le_of_ble_eq_true rfl⟩) (fpreV E hP hS fc1 hc0 (by omega)) rfl rfl hl.1 rfl (lv_room (Nat.le_of_ble_eq_true rfl)) dX1_toldTrulyBy_14 ⟨Nat.zero_le _, Nat.zero_le _⟩) hS (fun r_14 locs p_14 hS => ?_)
    refine fs_vi (y := (nI (rk σ i 0))) p_14 ?_
    have hte := (hG.r (i := i) (by omega)).2.1
    refine lv_iload_n hx hb dX1_toldTrulyBy_17 rfl (lv_at hl 1 rfl) ?_
    refine lv_icmp_ne (tgt := 32) hx hb dX1_toldTrulyBy_18 (by decide) (fun c_18 => ?_) (fun c_18 => ?_)
    · rw [nI_eq (by omega) (by omega)] at c_18
      refine lv_iinc (v := (nI (i + 1))) (lv' := [(3, .int (nI (i + 1))), (0, .ref (fa g h)), (1, .int (nI q)), (2, .int (nI (cN (fun i => decide (rk σ i 0 = q) && hdr σ (lkf σ) i) i)))]) hx hb dX1_toldTrulyBy_32 hl (k := 3) rfl (nI_1 _) (by decide) rfl (fun ls hl => ?_)
      refine lv_goto (tgt := 4) hx hb dX1_toldTrulyBy_35 (by decide) ?_
      have e9 : nI (cN (fun i => decide (rk σ i 0 = q) && hdr σ (lkf σ) i) i) = nI (cN (fun i => decide (rk σ i 0 = q) && hdr σ (lkf σ) i) (i + 1)) := by rw [cN_f (by rw [decide_eq_false c_18]; rfl)]
      rw [e9] at hl
      exact ih (i + 1) ls _ (by (try dsimp only); omega) ⟨lv_sub hl [1, 2, 3, 0] rfl, by omega⟩ hS
    · rw [nI_eq (by omega) (by omega)] at c_18
      refine lv_aload_n hx hb dX1_toldTrulyBy_21 rfl (lv_at hl 0 rfl) ?_
      refine lv_iload_n hx hb dX1_toldTrulyBy_22 rfl (lv_at hl 3 rfl) ?_
      refine fs_pi (va_runV (As := [.int (nI i)]) (rest := []) E.1 (c_X1_isTrue l g N ct h σ i hN hG hH (by omega)) (lk_RX1_83 E.1.2.2.2.2 ⟨Nat.le_of_ble_eq_true rfl, Nat.le_of_ble_eq_true rfl⟩) (fpreV E hP hS fc1 hc0 (by omega)) rfl rfl hl.1 rfl (lv_room (Nat.le_of_ble_eq_true rfl)) dX1_toldTrulyBy_23 ⟨Nat.zero_le _, Nat.zero_le _⟩) hS (fun r_23 locs p_23 hS => ?_)
      refine lv_if_eq (tgt := 32) hx hb dX1_toldTrulyBy_26 (by decide) (fun c_26 => ?_) (fun c_26 => ?_)
      · have c_26 := (fb_0 p_23).mp c_26
        refine lv_iinc (v := (nI (i + 1))) (lv' := [(3, .int (nI (i + 1))), (0, .ref (fa g h)), (1, .int (nI q)), (2, .int (nI (cN (fun i => decide (rk σ i 0 = q) && hdr σ (lkf σ) i) i)))]) hx hb dX1_toldTrulyBy_32 hl (k := 3) rfl (nI_1 _) (by decide) rfl (fun ls hl => ?_)
        refine lv_goto (tgt := 4) hx hb dX1_toldTrulyBy_35 (by decide) ?_
        have e9 : nI (cN (fun i => decide (rk σ i 0 = q) && hdr σ (lkf σ) i) i) = nI (cN (fun i => decide (rk σ i 0 = q) && hdr σ (lkf σ) i) (i + 1)) := by rw [cN_f (by rw [Bool.eq_false_iff.mpr c_26, Bool.and_false])]
        rw [e9] at hl
        exact ih (i + 1) ls _ (by (try dsimp only); omega) ⟨lv_sub hl [1, 2, 3, 0] rfl, by omega⟩ hS
      · have c_26 := (fb_1 p_23).mp c_26
        refine lv_iinc (v := (nI (cN (fun i => decide (rk σ i 0 = q) && hdr σ (lkf σ) i) (i + 1)))) (lv' := [(2, .int (nI (cN (fun i => decide (rk σ i 0 = q) && hdr σ (lkf σ) i) (i + 1)))), (0, .ref (fa g h)), (1, .int (nI q)), (3, .int (nI i))]) hx hb dX1_toldTrulyBy_29 hl (k := 2) rfl (by rw [cN_t (by rw [decide_eq_true c_18, c_26]; rfl)]; exact nI_1 _) (by decide) rfl (fun ls hl => ?_)
        refine lv_iinc (v := (nI (i + 1))) (lv' := [(3, .int (nI (i + 1))), (2, .int (nI (cN (fun i => decide (rk σ i 0 = q) && hdr σ (lkf σ) i) (i + 1)))), (0, .ref (fa g h)), (1, .int (nI q))]) hx hb dX1_toldTrulyBy_32 hl (k := 3) rfl (nI_1 _) (by decide) rfl (fun ls hl => ?_)
        refine lv_goto (tgt := 4) hx hb dX1_toldTrulyBy_35 (by decide) ?_
        exact ih (i + 1) ls _ (by (try dsimp only); omega) ⟨lv_sub hl [2, 3, 1, 0] rfl, by omega⟩ hS

set_option maxRecDepth 100000 in
set_option maxHeartbeats 4000000 in
theorem c_X1_firstBroken (l : Launch) (g : fG) (N : Nat) (ct : Nat → va_E) (h : Nat) (σ : Nat → Int32) (i0 j : Nat) (f : Nat → Int32) (w : Nat → Nat) (hN : h + 25 ≤ N) (hj : j < N) (hG : Good σ) (hH : HouseAt g ct h σ) (hi0 : i0 ≤ nT σ) (hcj : ct j = .inl (fcI g, 6, .inl f)) (hRW : RW (nB σ) w f) (hw : Wok (nB σ) w) : Met l yX1_firstBroken (wsU yX1_firstBroken cX1_firstBroken 5 (some .int)) rX1_firstBroken (fPre g N ct [.ref (fa g h), .int (nI i0), .ref (fa g j)]) (fQpi (fun r => (r = -6 ∧ ∀ i, i0 ≤ i → i < nT σ → bad σ w i = false) ∨ ∃ i, i0 ≤ i ∧ i < nT σ ∧ r = nI i ∧ bad σ w i = true ∧ ∀ i2, i0 ≤ i2 → i2 < i → bad σ w i2 = false)) 0 0 (fB g) := by
  refine fs_start (own := RX1) (lv0 := [(0, .ref (fa g h)), (1, .int (nI i0)), (2, .ref (fa g j))]) (by decide) rfl (Nat.le_of_ble_eq_true rfl) rfl ?_
  intro p e s m args below meth c ls E hr hlk hnm hP hl hS
  have hx := E.1.1
  have hb := E.1.2.1
  have hG20 := hG.k
  have hG3 := hG.n3
  have hG6 := hG.n6
  obtain ⟨hc0, ⟨f1, hc1, hf1⟩, ⟨f2, hc2, hf2⟩, ⟨f3, hc3, hf3⟩, ⟨f4, hc4, hf4⟩, hc5⟩ := id hH
  refine lv_iload_n hx hb dX1_firstBroken_0 rfl (lv_at hl 1 rfl) ?_
  refine lv_iconst (v := (nI 0)) hx hb dX1_firstBroken_1 (by decide) ?_
  refine va_mmax hx hb (by rw [E.1.2.2.1]; exact hl.1.symm) E.1.2.2.2.1 (E.1.2.2.2.2 _ (wm wl_10 (i := 3) rfl)) (E.1.2.2.2.2 _ (wm wl_10 (i := 4) rfl)) (E.1.2.2.2.2 _ (wm wl_5 (i := 19) rfl)) (E.1.2.2.2.2 _ (wm wl_10 (i := 5) rfl)) (Nat.le_of_ble_eq_true rfl) (Nat.le_of_ble_eq_true rfl) (Nat.zero_le _) (Nat.zero_le _) dX1_firstBroken_2 ?_
  refine fs_vi (y := (nI i0)) (if_neg (by rw [show (nI 0 : Int32) = 0 from rfl, fz_ltN (by omega)]; omega)) ?_
  refine lv_istore_n (lv' := [(3, .int (nI i0)), (0, .ref (fa g h)), (1, .int (nI i0)), (2, .ref (fa g j))]) hx hb dX1_firstBroken_5 rfl hl (by decide) rfl (fun ls hl => ?_)
  refine fs_indP (g := g) (St := Nat) (fun (i : Nat) (ls : Array Slot) => lv_has ls 5 [(0, .ref (fa g h)), (2, .ref (fa g j)), (3, .int (nI i))] ∧ i0 ≤ i ∧ i ≤ nT σ ∧ ∀ i2, i0 ≤ i2 → i2 < i → bad σ w i2 = false) (fun (i : Nat) => nT σ - i) ?_ i0 ls _ ⟨lv_sub hl [1, 3, 0] rfl, Nat.le_refl _, hi0, fun i2 h8 h9 => absurd h8 (by omega)⟩ hS
  clear hl hS
  intro st ls locs hI hS ih
  obtain ⟨i, rfl⟩ : ∃ z, z = st := ⟨_, rfl⟩
  obtain ⟨hl, hI⟩ := hI
  have hI1 := hI.1
  have hI2 := hI.2.1
  refine lv_iload_n hx hb dX1_firstBroken_6 rfl (lv_at hl 2 rfl) ?_
  refine lv_aload_n hx hb dX1_firstBroken_7 rfl (lv_at hl 0 rfl) ?_
  refine fs_get E hP (k := h) (v := .int (nI (nT σ))) 2 fc1 hc0 (by omega) (by decide) (wm wl_4 (i := 13) rfl) rfl dX1_firstBroken_8 ?_
  refine lv_icmp_ge (tgt := 61) hx hb dX1_firstBroken_11 (by decide) (fun c_11 => ?_) (fun c_11 => ?_)
  · rw [nI_leI (by omega) (by omega)] at c_11
    refine lv_bipush (v := (-6)) hx hb dX1_firstBroken_61 (by decide) ?_
    refine fs_piret E hr hlk hS dX1_firstBroken_63 ?_
    exact Or.inl ⟨rfl, fun i2 h8 h9 => hI.2.2 i2 h8 (by omega)⟩
  · rw [nI_leI (by omega) (by omega)] at c_11
    refine lv_iload_n hx hb dX1_firstBroken_14 rfl (lv_at hl 2 rfl) ?_
    refine lv_aload_n hx hb dX1_firstBroken_15 rfl (lv_at hl 0 rfl) ?_
    refine fs_get E hP (k := h) (v := .ref (fa g (h + 4))) 6 fc1 hc0 (by omega) (by decide) (wm wl_2 (i := 15) rfl) rfl dX1_firstBroken_16 ?_
    refine fs_alenR E hP (k := (h + 4)) hc4 (by omega) dX1_firstBroken_19 ?_
    refine lv_icmp_ge (tgt := 61) hx hb dX1_firstBroken_20 (by decide) (fun c_20 => ?_) (fun c_20 => ?_)
    · rw [nI_leI (by omega) (by omega)] at c_20
      refine lv_bipush (v := (-6)) hx hb dX1_firstBroken_61 (by decide) ?_
      refine fs_piret E hr hlk hS dX1_firstBroken_63 ?_
      exact Or.inl ⟨rfl, fun i2 h8 h9 => hI.2.2 i2 h8 (by omega)⟩
    · rw [nI_leI (by omega) (by omega)] at c_20
      refine lv_aload_n hx hb dX1_firstBroken_23 rfl (lv_at hl 0 rfl) ?_
      refine fs_get E hP (k := h) (v := .ref (fa g (h + 4))) 6 fc1 hc0 (by omega) (by decide) (wm wl_2 (i := 15) rfl) rfl dX1_firstBroken_24 ?_
      refine lv_iload_n hx hb dX1_firstBroken_27 rfl (lv_at hl 2 rfl) ?_
      refine fs_aaldR E hP (k := (h + 4)) hc4 (by omega) (vp_in_nI (by omega) (by omega)) dX1_firstBroken_28 ?_
      refine fs_vv (y := .ref (fa g (h + 5 + i))) (by rw [nI_clamp (by omega), hf4 i (by omega)]; rfl) ?_
      obtain ⟨te9, kd9, a9, b9, st9, hr0, hr1⟩ := hc5 i (by omega)
      obtain ⟨rfl, rfl, rfl, rfl, rfl⟩ := hr1 (by omega)
      obtain ⟨hrA, hrB, hrC, hrD⟩ := hG.r (i := i) (by omega)
      obtain ⟨hrE, hrF, hrH⟩ := hrC.lt hG6
      refine lv_astore (lv' := [(4, .ref (fa g (h + 5 + i))), (0, .ref (fa g h)), (2, .ref (fa g j)), (3, .int (nI i))]) hx hb dX1_firstBroken_29 hl (by decide) rfl (fun ls hl => ?_)
      refine lv_aload hx hb dX1_firstBroken_31 (lv_at hl 0 rfl) ?_
      refine lv_ifnull hx hb dX1_firstBroken_33 ?_
      refine lv_aload hx hb dX1_firstBroken_36 (lv_at hl 0 rfl) ?_
      refine fs_getN E hP (k := (h + 5 + i)) (v := .int (nI (rk σ i 4))) 4 fc3 hr0 (by omega) (by decide) (j := 6) rfl rfl dX1_firstBroken_38 ?_
      refine lv_if_eq (tgt := 55) hx hb dX1_firstBroken_41 (by decide) (fun c_41 => ?_) (fun c_41 => ?_)
      · rw [fz_eqN (by omega)] at c_41
        refine lv_iinc (v := (nI (i + 1))) (lv' := [(3, .int (nI (i + 1))), (4, .ref (fa g (h + 5 + i))), (0, .ref (fa g h)), (2, .ref (fa g j))]) hx hb dX1_firstBroken_55 hl (k := 3) rfl (nI_1 _) (by decide) rfl (fun ls hl => ?_)
        refine lv_goto (tgt := 6) hx hb dX1_firstBroken_58 (by decide) ?_
        exact ih (i + 1) ls _ (by (try dsimp only); omega) ⟨lv_sub hl [2, 3, 0] rfl, by omega, by omega, fun i2 h8 h9 => (Nat.lt_or_ge i2 i).elim (fun q9 => hI.2.2 i2 h8 q9) (fun q9 => (show i2 = i by omega) ▸ (by unfold bad bk; rw [c_41]; split <;> rfl))⟩ hS
      · rw [fz_eqN (by omega)] at c_41
        refine lv_aload hx hb dX1_firstBroken_44 (lv_at hl 0 rfl) ?_
        refine lv_aload_n hx hb dX1_firstBroken_46 rfl (lv_at hl 2 rfl) ?_
        refine fs_pi (va_runV (As := [.ref (fa g j)]) (rest := []) E.1 (c_X3_isBrokenIn l g N ct (h + 5 + i) j (nI (rk σ i 0)) (nB σ) (rk σ i 1) (rk σ i 2) (rk σ i 3) (rk σ i 4) f w (by omega) hj hG6 (by omega) hrC hRW hw hr0 hcj) (lk_RX1_99 E.1.2.2.2.2 ⟨Nat.le_of_ble_eq_true rfl, Nat.le_of_ble_eq_true rfl⟩) (fpreV E hP hS fc3 hr0 (by omega)) rfl rfl hl.1 rfl (lv_room (Nat.le_of_ble_eq_true rfl)) dX1_firstBroken_47 ⟨Nat.zero_le _, Nat.zero_le _⟩) hS (fun r_47 locs p_47 hS => ?_)
        refine lv_if_eq (tgt := 55) hx hb dX1_firstBroken_50 (by decide) (fun c_50 => ?_) (fun c_50 => ?_)
        · have c_50 := (fb_0 p_47).mp c_50
          refine lv_iinc (v := (nI (i + 1))) (lv' := [(3, .int (nI (i + 1))), (4, .ref (fa g (h + 5 + i))), (0, .ref (fa g h)), (2, .ref (fa g j))]) hx hb dX1_firstBroken_55 hl (k := 3) rfl (nI_1 _) (by decide) rfl (fun ls hl => ?_)
          refine lv_goto (tgt := 6) hx hb dX1_firstBroken_58 (by decide) ?_
          exact ih (i + 1) ls _ (by (try dsimp only); omega) ⟨lv_sub hl [2, 3, 0] rfl, by omega, by omega, fun i2 h8 h9 => (Nat.lt_or_ge i2 i).elim (fun q9 => hI.2.2 i2 h8 q9) (fun q9 => (show i2 = i by omega) ▸ (Bool.eq_false_iff.mpr c_50))⟩ hS
        · have c_50 := (fb_1 p_47).mp c_50
          refine lv_iload_n hx hb dX1_firstBroken_53 rfl (lv_at hl 3 rfl) ?_
          refine fs_piret E hr hlk hS dX1_firstBroken_54 ?_
          exact Or.inr ⟨i, hI.1, by omega, rfl, c_50, hI.2.2⟩
