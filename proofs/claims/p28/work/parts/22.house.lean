set_option maxRecDepth 100000 in
set_option maxHeartbeats 4000000 in
theorem c_X3_become (l : Launch) (g : fG) (N : Nat) (ct : Nat → va_E) (k : Nat) (o1 o2 o3 o4 o5 te kd a b : Int32) (hk : k < N) (hc : ct k = .inr (3, [.int o1, .int o2, .int o3, .int o4, .int o5])) : Met l yX3_become (wsU yX3_become cX3_become 5 none) rX3_become (fPre g N ct [.ref (fa g k), .int te, .int kd, .int a, .int b]) (fQv g N (fun ct1 => ct1 = fu ct k (.inr (3, [.int te, .int kd, .int a, .int b, .int (nI 0)])))) 0 0 (fB g) := by
  refine fs_start (own := RX3) (lv0 := [(0, .ref (fa g k)), (1, .int te), (2, .int kd), (3, .int a), (4, .int b)]) (by decide) rfl (Nat.le_of_ble_eq_true rfl) rfl ?_
  intro p e s m args below meth c ls E hr hlk hnm hP hl hS
  have hx := E.1.1
  have hb := E.1.2.1
  refine lv_aload_n hx hb dX3_become_0 rfl (lv_at hl 0 rfl) ?_
  refine lv_iload_n hx hb dX3_become_1 rfl (lv_at hl 1 rfl) ?_
  refine fs_put E hP hS (k := k) 0 fc3 hc hk (by decide) (wm wl_6 (i := 15) rfl) rfl rfl rfl rfl (Nat.le_of_ble_eq_true rfl) dX3_become_2 (fun ct_1 H locs q_2 hP hS => ?_)
  have h_3 : ct_1 k = .inr (3, [.int te, .int o2, .int o3, .int o4, .int o5]) := by rw [q_2]; exact fu_eq _ _ _
  refine lv_aload_n hx hb dX3_become_5 rfl (lv_at hl 0 rfl) ?_
  refine lv_iload_n hx hb dX3_become_6 rfl (lv_at hl 2 rfl) ?_
  refine fs_put E hP hS (k := k) 1 fc3 h_3 hk (by decide) (wm wl_6 (i := 16) rfl) rfl rfl rfl rfl (Nat.le_of_ble_eq_true rfl) dX3_become_7 (fun ct_4 H locs q_5 hP hS => ?_)
  have h_6 : ct_4 k = .inr (3, [.int te, .int kd, .int o3, .int o4, .int o5]) := by rw [q_5]; exact fu_eq _ _ _
  refine lv_aload_n hx hb dX3_become_10 rfl (lv_at hl 0 rfl) ?_
  refine lv_iload_n hx hb dX3_become_11 rfl (lv_at hl 3 rfl) ?_
  refine fs_put E hP hS (k := k) 2 fc3 h_6 hk (by decide) (wm wl_6 (i := 17) rfl) rfl rfl rfl rfl (Nat.le_of_ble_eq_true rfl) dX3_become_12 (fun ct_7 H locs q_8 hP hS => ?_)
  have h_9 : ct_7 k = .inr (3, [.int te, .int kd, .int a, .int o4, .int o5]) := by rw [q_8]; exact fu_eq _ _ _
  refine lv_aload_n hx hb dX3_become_15 rfl (lv_at hl 0 rfl) ?_
  refine lv_iload hx hb dX3_become_16 (lv_at hl 4 rfl) ?_
  refine fs_put E hP hS (k := k) 3 fc3 h_9 hk (by decide) (wm wl_6 (i := 18) rfl) rfl rfl rfl rfl (Nat.le_of_ble_eq_true rfl) dX3_become_18 (fun ct_10 H locs q_11 hP hS => ?_)
  have h_12 : ct_10 k = .inr (3, [.int te, .int kd, .int a, .int b, .int o5]) := by rw [q_11]; exact fu_eq _ _ _
  refine lv_aload_n hx hb dX3_become_21 rfl (lv_at hl 0 rfl) ?_
  refine lv_iconst (v := (nI 0)) hx hb dX3_become_22 (by decide) ?_
  refine fs_put E hP hS (k := k) 4 fc3 h_12 hk (by decide) (wm wl_6 (i := 19) rfl) rfl rfl rfl rfl (Nat.le_of_ble_eq_true rfl) dX3_become_23 (fun ct_13 H locs q_14 hP hS => ?_)
  have h_15 : ct_13 k = .inr (3, [.int te, .int kd, .int a, .int b, .int (nI 0)]) := by rw [q_14]; exact fu_eq _ _ _
  refine fs_vret E hr hlk hP hS dX3_become_26 ?_
  rw [q_14, q_11, q_8, q_5, q_2]; simp only [fu_fu]; rfl

set_option maxRecDepth 100000 in
set_option maxHeartbeats 4000000 in
theorem c_X3_copyFrom (l : Launch) (g : fG) (N : Nat) (ct : Nat → va_E) (k k2 : Nat) (o1 o2 o3 o4 o5 te kd a b st : Int32) (hne : k ≠ k2) (hk : k < N) (hk2 : k2 < N) (hc : ct k = .inr (3, [.int o1, .int o2, .int o3, .int o4, .int o5])) (hc2 : ct k2 = .inr (3, [.int te, .int kd, .int a, .int b, .int st])) : Met l yX3_copyFrom (wsU yX3_copyFrom cX3_copyFrom 2 none) rX3_copyFrom (fPre g N ct [.ref (fa g k), .ref (fa g k2)]) (fQv g N (fun ct1 => ct1 = fu ct k (.inr (3, [.int te, .int kd, .int a, .int b, .int st])))) 0 0 (fB g) := by
  refine fs_start (own := RX3) (lv0 := [(0, .ref (fa g k)), (1, .ref (fa g k2))]) (by decide) rfl (Nat.le_of_ble_eq_true rfl) rfl ?_
  intro p e s m args below meth c ls E hr hlk hnm hP hl hS
  have hx := E.1.1
  have hb := E.1.2.1
  refine lv_aload_n hx hb dX3_copyFrom_0 rfl (lv_at hl 0 rfl) ?_
  refine lv_aload_n hx hb dX3_copyFrom_1 rfl (lv_at hl 1 rfl) ?_
  refine fs_get E hP (k := k2) (v := .int te) 0 fc3 hc2 hk2 (by decide) (wm wl_6 (i := 15) rfl) rfl dX3_copyFrom_2 ?_
  refine lv_aload_n hx hb dX3_copyFrom_5 rfl (lv_at hl 1 rfl) ?_
  refine fs_get E hP (k := k2) (v := .int kd) 1 fc3 hc2 hk2 (by decide) (wm wl_6 (i := 16) rfl) rfl dX3_copyFrom_6 ?_
  refine lv_aload_n hx hb dX3_copyFrom_9 rfl (lv_at hl 1 rfl) ?_
  refine fs_get E hP (k := k2) (v := .int a) 2 fc3 hc2 hk2 (by decide) (wm wl_6 (i := 17) rfl) rfl dX3_copyFrom_10 ?_
  refine lv_aload_n hx hb dX3_copyFrom_13 rfl (lv_at hl 1 rfl) ?_
  refine fs_get E hP (k := k2) (v := .int b) 3 fc3 hc2 hk2 (by decide) (wm wl_6 (i := 18) rfl) rfl dX3_copyFrom_14 ?_
  refine fs_v (va_runV (As := [.int te, .int kd, .int a, .int b]) (rest := []) E.1 (c_X3_become l g N ct k o1 o2 o3 o4 o5 te kd a b hk hc) (lk_RX3_27 E.1.2.2.2.2 ⟨Nat.le_of_ble_eq_true rfl, Nat.le_of_ble_eq_true rfl⟩) (fpreV E hP hS fc3 hc hk) rfl rfl hl.1 rfl (lv_room (Nat.le_of_ble_eq_true rfl)) dX3_copyFrom_17 ⟨Nat.zero_le _, Nat.zero_le _⟩) hS (fun ct_1 H locs p_17 hP hS => ?_)
  have hx1 : ct_1 k = .inr (3, [.int te, .int kd, .int a, .int b, .int (nI 0)]) := by rw [p_17]; exact fu_eq _ _ _
  have hx2 : ct_1 k2 = .inr (3, [.int te, .int kd, .int a, .int b, .int st]) := by rw [p_17]; exact (fu_ne (by omega)).trans hc2
  refine lv_aload_n hx hb dX3_copyFrom_20 rfl (lv_at hl 0 rfl) ?_
  refine lv_aload_n hx hb dX3_copyFrom_21 rfl (lv_at hl 1 rfl) ?_
  refine fs_get E hP (k := k2) (v := .int st) 4 fc3 hx2 hk2 (by decide) (wm wl_6 (i := 19) rfl) rfl dX3_copyFrom_22 ?_
  refine fs_put E hP hS (k := k) 4 fc3 hx1 hk (by decide) (wm wl_6 (i := 19) rfl) rfl rfl rfl rfl (Nat.le_of_ble_eq_true rfl) dX3_copyFrom_25 (fun ct_2 H locs q_3 hP hS => ?_)
  have h_4 : ct_2 k = .inr (3, [.int te, .int kd, .int a, .int b, .int st]) := by rw [q_3]; exact fu_eq _ _ _
  have h_5 : ct_2 k2 = .inr (3, [.int te, .int kd, .int a, .int b, .int st]) := by rw [q_3]; exact (fu_ne (by omega)).trans hx2
  refine fs_vret E hr hlk hP hS dX3_copyFrom_28 ?_
  rw [q_3, p_17, fu_fu]; rfl

set_option maxRecDepth 100000 in
set_option maxHeartbeats 4000000 in
theorem c_X3_decide (l : Launch) (g : fG) (N : Nat) (ct : Nat → va_E) (k : Nat) (te kd a b st x : Int32) (Pq : Prop) (hdec : Decidable Pq) (hx0 : x = bI Pq) (hk : k < N) (hc : ct k = .inr (3, [.int te, .int kd, .int a, .int b, .int st])) : Met l yX3_decide (wsU yX3_decide cX3_decide 2 none) rX3_decide (fPre g N ct [.ref (fa g k), .int x]) (fQv g N (fun ct1 => ct1 = fu ct k (.inr (3, [.int te, .int kd, .int a, .int b, .int (nI (if Pq then 1 else 2))])))) 0 0 (fB g) := by
  refine fs_start (own := RX3) (lv0 := [(0, .ref (fa g k)), (1, .int x)]) (by decide) rfl (Nat.le_of_ble_eq_true rfl) rfl ?_
  intro p e s m args below meth c ls E hr hlk hnm hP hl hS
  have hx := E.1.1
  have hb := E.1.2.1
  refine lv_aload_n hx hb dX3_decide_0 rfl (lv_at hl 0 rfl) ?_
  refine lv_iload_n hx hb dX3_decide_1 rfl (lv_at hl 1 rfl) ?_
  refine lv_if_eq (tgt := 9) hx hb dX3_decide_2 (by decide) (fun c_2 => ?_) (fun c_2 => ?_)
  · have c_2 := (fb_0 hx0).mp c_2
    refine lv_iconst (v := (nI 2)) hx hb dX3_decide_9 (by decide) ?_
    refine fs_put E hP hS (k := k) 4 fc3 hc hk (by decide) (wm wl_6 (i := 19) rfl) rfl rfl rfl rfl (Nat.le_of_ble_eq_true rfl) dX3_decide_10 (fun ct_1 H locs q_2 hP hS => ?_)
    have h_3 : ct_1 k = .inr (3, [.int te, .int kd, .int a, .int b, .int (nI 2)]) := by rw [q_2]; exact fu_eq _ _ _
    refine fs_vret E hr hlk hP hS dX3_decide_13 ?_
    rw [q_2, if_neg c_2]; rfl
  · have c_2 := (fb_1 hx0).mp c_2
    refine lv_iconst (v := (nI 1)) hx hb dX3_decide_5 (by decide) ?_
    refine lv_goto (tgt := 10) hx hb dX3_decide_6 (by decide) ?_
    refine fs_put E hP hS (k := k) 4 fc3 hc hk (by decide) (wm wl_6 (i := 19) rfl) rfl rfl rfl rfl (Nat.le_of_ble_eq_true rfl) dX3_decide_10 (fun ct_4 H locs q_5 hP hS => ?_)
    have h_6 : ct_4 k = .inr (3, [.int te, .int kd, .int a, .int b, .int (nI 1)]) := by rw [q_5]; exact fu_eq _ _ _
    refine fs_vret E hr hlk hP hS dX3_decide_13 ?_
    rw [q_5, if_pos c_2]; rfl

set_option maxRecDepth 100000 in
set_option maxHeartbeats 4000000 in
theorem c_X3_holdsIn (l : Launch) (g : fG) (N : Nat) (ct : Nat → va_E) (k j : Nat) (te st : Int32) (n kd a b : Nat) (f : Nat → Int32) (w : Nat → Nat) (hk : k < N) (hj : j < N) (hn6 : n ≤ 6) (hok : okk n kd a b) (hRW : RW n w f) (hw : Wok n w) (hc : ct k = .inr (3, [.int te, .int (nI kd), .int (nI a), .int (nI b), .int st])) (hc2 : ct j = .inl (fcI g, 6, .inl f)) : Met l yX3_holdsIn (wsU yX3_holdsIn cX3_holdsIn 3 (some .boolean)) rX3_holdsIn (fPre g N ct [.ref (fa g k), .ref (fa g j)]) (fQpi (fun r => r = bI (hd n w kd a b = true))) 0 0 (fB g) := by
  refine fs_start (own := RX3) (lv0 := [(0, .ref (fa g k)), (1, .ref (fa g j))]) (by decide) rfl (Nat.le_of_ble_eq_true rfl) rfl ?_
  intro p e s m args below meth c ls E hr hlk hnm hP hl hS
  have hx := E.1.1
  have hb := E.1.2.1
  obtain ⟨ok1, ok2, ok3, ok4⟩ := hok
  have ok5 := hw a ok2
  have okb : kd ≠ 4 → w b < n := fun q => hw b (ok4 q).1
  have okb2 : kd ≠ 4 → b < n := fun q => (ok4 q).1
  have okb3 : b < 7 := by rcases Decidable.em (kd = 4) with q | q
                          · have := ok3 q; omega
                          · have := okb2 q; omega
  have okc := hw (w a) ok5
  have ok7 : cN (fun p => decide (w p = a)) n < 7 := cN_lt7 hn6
  refine lv_aload_n hx hb dX3_holdsIn_0 rfl (lv_at hl 1 rfl) ?_
  refine lv_aload_n hx hb dX3_holdsIn_1 rfl (lv_at hl 0 rfl) ?_
  refine fs_get E hP (k := k) (v := .int (nI a)) 2 fc3 hc hk (by decide) (wm wl_6 (i := 17) rfl) rfl dX3_holdsIn_2 ?_
  refine fs_pi (va_runSN (As := [.ref (fa g j), .int (nI a)]) (rest := []) E.1 (c_X7_at l g N ct j 6 f (nI a) (by omega) hj hc2) (lk_RX3_31 E.1.2.2.2.2 (E.2.1.2.1 _ (List.mem_of_getElem? (i := 32) rfl)) ⟨Nat.le_of_ble_eq_true rfl, Nat.le_of_ble_eq_true rfl⟩) (fpreS E hP hS) rfl rfl hl.1 rfl (lv_room (Nat.le_of_ble_eq_true rfl)) dX3_holdsIn_5 ⟨Nat.zero_le _, Nat.zero_le _⟩) hS (fun r_5 locs p_5 hS => ?_)
  refine fs_vi (p_5.trans ((atF_in (by omega) (by omega)).trans (hRW.in (by omega) hn6))) ?_
  refine lv_istore_n (lv' := [(2, .int (nI (w a))), (0, .ref (fa g k)), (1, .ref (fa g j))]) hx hb dX3_holdsIn_8 rfl hl (by decide) rfl (fun ls hl => ?_)
  refine lv_aload_n hx hb dX3_holdsIn_9 rfl (lv_at hl 1 rfl) ?_
  refine fs_get E hP (k := k) (v := .int (nI kd)) 1 fc3 hc hk (by decide) (wm wl_6 (i := 16) rfl) rfl dX3_holdsIn_10 ?_
  rcases Decidable.em (kd = 0) with k_13_0 | k_13_0
  · refine fs_vi (congrArg nI k_13_0) ?_
    refine lv_tableIn (off := 35) (tgt := 48) hx hb dX3_holdsIn_13 (by decide) (by decide) rfl (by decide) ?_
    refine lv_iload_n hx hb dX3_holdsIn_48 rfl (lv_at hl 0 rfl) ?_
    refine lv_aload_n hx hb dX3_holdsIn_49 rfl (lv_at hl 1 rfl) ?_
    refine fs_get E hP (k := k) (v := .int (nI b)) 3 fc3 hc hk (by decide) (wm wl_6 (i := 18) rfl) rfl dX3_holdsIn_50 ?_
    refine lv_icmp_ne (tgt := 60) hx hb dX3_holdsIn_53 (by decide) (fun c_53 => ?_) (fun c_53 => ?_)
    · rw [nI_eq (by omega) (by omega)] at c_53
      refine lv_iconst (v := (nI 0)) hx hb dX3_holdsIn_60 (by decide) ?_
      refine fs_pzret E hr rfl hlk hS dX3_holdsIn_61 ?_
      exact bI_f (by rw [show kd = 0 by omega]; simp only [hd, decide_eq_true_eq]; omega)
    · rw [nI_eq (by omega) (by omega)] at c_53
      refine lv_iconst (v := (nI 1)) hx hb dX3_holdsIn_56 (by decide) ?_
      refine lv_goto (tgt := 61) hx hb dX3_holdsIn_57 (by decide) ?_
      refine fs_pzret E hr rfl hlk hS dX3_holdsIn_61 ?_
      exact bI_t (by rw [show kd = 0 by omega]; simp only [hd, decide_eq_true_eq]; omega)
  rcases Decidable.em (kd = 1) with k_13_1 | k_13_1
  · refine fs_vi (congrArg nI k_13_1) ?_
    refine lv_tableIn (off := 49) (tgt := 62) hx hb dX3_holdsIn_13 (by decide) (by decide) rfl (by decide) ?_
    refine lv_iload_n hx hb dX3_holdsIn_62 rfl (lv_at hl 0 rfl) ?_
    refine lv_aload_n hx hb dX3_holdsIn_63 rfl (lv_at hl 1 rfl) ?_
    refine fs_get E hP (k := k) (v := .int (nI b)) 3 fc3 hc hk (by decide) (wm wl_6 (i := 18) rfl) rfl dX3_holdsIn_64 ?_
    refine lv_icmp_eq (tgt := 74) hx hb dX3_holdsIn_67 (by decide) (fun c_67 => ?_) (fun c_67 => ?_)
    · rw [nI_eq (by omega) (by omega)] at c_67
      refine lv_iconst (v := (nI 0)) hx hb dX3_holdsIn_74 (by decide) ?_
      refine fs_pzret E hr rfl hlk hS dX3_holdsIn_75 ?_
      exact bI_f (by rw [show kd = 1 by omega]; simp only [hd, decide_eq_true_eq]; omega)
    · rw [nI_eq (by omega) (by omega)] at c_67
      refine lv_iconst (v := (nI 1)) hx hb dX3_holdsIn_70 (by decide) ?_
      refine lv_goto (tgt := 75) hx hb dX3_holdsIn_71 (by decide) ?_
      refine fs_pzret E hr rfl hlk hS dX3_holdsIn_75 ?_
      exact bI_t (by rw [show kd = 1 by omega]; simp only [hd, decide_eq_true_eq]; omega)
  rcases Decidable.em (kd = 2) with k_13_2 | k_13_2
  · refine fs_vi (congrArg nI k_13_2) ?_
    refine lv_tableIn (off := 63) (tgt := 76) hx hb dX3_holdsIn_13 (by decide) (by decide) rfl (by decide) ?_
    refine lv_iload_n hx hb dX3_holdsIn_76 rfl (lv_at hl 0 rfl) ?_
    refine lv_aload_n hx hb dX3_holdsIn_77 rfl (lv_at hl 1 rfl) ?_
    refine fs_get E hP (k := k) (v := .int (nI b)) 3 fc3 hc hk (by decide) (wm wl_6 (i := 18) rfl) rfl dX3_holdsIn_78 ?_
    refine lv_icmp_ne (tgt := 103) hx hb dX3_holdsIn_81 (by decide) (fun c_81 => ?_) (fun c_81 => ?_)
    · rw [nI_eq (by omega) (by omega)] at c_81
      refine lv_iconst (v := (nI 0)) hx hb dX3_holdsIn_103 (by decide) ?_
      refine fs_pzret E hr rfl hlk hS dX3_holdsIn_104 ?_
      exact bI_f (by rw [show kd = 2 by omega]; simp only [hd, decide_eq_true_eq]; omega)
    · rw [nI_eq (by omega) (by omega)] at c_81
      refine lv_aload_n hx hb dX3_holdsIn_84 rfl (lv_at hl 2 rfl) ?_
      refine lv_aload_n hx hb dX3_holdsIn_85 rfl (lv_at hl 1 rfl) ?_
      refine fs_get E hP (k := k) (v := .int (nI b)) 3 fc3 hc hk (by decide) (wm wl_6 (i := 18) rfl) rfl dX3_holdsIn_86 ?_
      refine fs_pi (va_runSN (As := [.ref (fa g j), .int (nI b)]) (rest := []) E.1 (c_X7_at l g N ct j 6 f (nI b) (by omega) hj hc2) (lk_RX3_31 E.1.2.2.2.2 (E.2.1.2.1 _ (List.mem_of_getElem? (i := 32) rfl)) ⟨Nat.le_of_ble_eq_true rfl, Nat.le_of_ble_eq_true rfl⟩) (fpreS E hP hS) rfl rfl hl.1 rfl (lv_room (Nat.le_of_ble_eq_true rfl)) dX3_holdsIn_89 ⟨Nat.zero_le _, Nat.zero_le _⟩) hS (fun r_89 locs p_89 hS => ?_)
      refine fs_vi (p_89.trans ((atF_in (by omega) (by omega)).trans (hRW.in (by omega) hn6))) ?_
      refine lv_aload_n hx hb dX3_holdsIn_92 rfl (lv_at hl 1 rfl) ?_
      refine fs_get E hP (k := k) (v := .int (nI a)) 2 fc3 hc hk (by decide) (wm wl_6 (i := 17) rfl) rfl dX3_holdsIn_93 ?_
      refine lv_icmp_ne (tgt := 103) hx hb dX3_holdsIn_96 (by decide) (fun c_96 => ?_) (fun c_96 => ?_)
      · rw [nI_eq (by omega) (by omega)] at c_96
        refine lv_iconst (v := (nI 0)) hx hb dX3_holdsIn_103 (by decide) ?_
        refine fs_pzret E hr rfl hlk hS dX3_holdsIn_104 ?_
        exact bI_f (by rw [show kd = 2 by omega]; simp only [hd, decide_eq_true_eq]; omega)
      · rw [nI_eq (by omega) (by omega)] at c_96
        refine lv_iconst (v := (nI 1)) hx hb dX3_holdsIn_99 (by decide) ?_
        refine lv_goto (tgt := 104) hx hb dX3_holdsIn_100 (by decide) ?_
        refine fs_pzret E hr rfl hlk hS dX3_holdsIn_104 ?_
        exact bI_t (by rw [show kd = 2 by omega]; simp only [hd, decide_eq_true_eq]; omega)
  rcases Decidable.em (kd = 3) with k_13_3 | k_13_3
  · refine fs_vi (congrArg nI k_13_3) ?_
    refine lv_tableIn (off := 92) (tgt := 105) hx hb dX3_holdsIn_13 (by decide) (by decide) rfl (by decide) ?_
    refine lv_iload_n hx hb dX3_holdsIn_105 rfl (lv_at hl 0 rfl) ?_
    refine lv_aload_n hx hb dX3_holdsIn_106 rfl (lv_at hl 2 rfl) ?_
    refine lv_aload_n hx hb dX3_holdsIn_107 rfl (lv_at hl 1 rfl) ?_
    refine fs_get E hP (k := k) (v := .int (nI b)) 3 fc3 hc hk (by decide) (wm wl_6 (i := 18) rfl) rfl dX3_holdsIn_108 ?_
    refine fs_pi (va_runSN (As := [.ref (fa g j), .int (nI b)]) (rest := [.int (nI (w a))]) E.1 (c_X7_at l g N ct j 6 f (nI b) (by omega) hj hc2) (lk_RX3_31 E.1.2.2.2.2 (E.2.1.2.1 _ (List.mem_of_getElem? (i := 32) rfl)) ⟨Nat.le_of_ble_eq_true rfl, Nat.le_of_ble_eq_true rfl⟩) (fpreS E hP hS) rfl rfl hl.1 rfl (lv_room (Nat.le_of_ble_eq_true rfl)) dX3_holdsIn_111 ⟨Nat.zero_le _, Nat.zero_le _⟩) hS (fun r_111 locs p_111 hS => ?_)
    refine fs_vi (p_111.trans ((atF_in (by omega) (by omega)).trans (hRW.in (by omega) hn6))) ?_
    refine lv_icmp_ne (tgt := 121) hx hb dX3_holdsIn_114 (by decide) (fun c_114 => ?_) (fun c_114 => ?_)
    · rw [nI_eq (by omega) (by omega)] at c_114
      refine lv_iconst (v := (nI 0)) hx hb dX3_holdsIn_121 (by decide) ?_
      refine fs_pzret E hr rfl hlk hS dX3_holdsIn_122 ?_
      exact bI_f (by rw [show kd = 3 by omega]; simp only [hd, decide_eq_true_eq]; omega)
    · rw [nI_eq (by omega) (by omega)] at c_114
      refine lv_iconst (v := (nI 1)) hx hb dX3_holdsIn_117 (by decide) ?_
      refine lv_goto (tgt := 122) hx hb dX3_holdsIn_118 (by decide) ?_
      refine fs_pzret E hr rfl hlk hS dX3_holdsIn_122 ?_
      exact bI_t (by rw [show kd = 3 by omega]; simp only [hd, decide_eq_true_eq]; omega)
  rcases Decidable.em (kd = 4) with k_13_4 | k_13_4
  · refine fs_vi (congrArg nI k_13_4) ?_
    refine lv_tableIn (off := 110) (tgt := 123) hx hb dX3_holdsIn_13 (by decide) (by decide) rfl (by decide) ?_
    refine lv_aload_n hx hb dX3_holdsIn_123 rfl (lv_at hl 2 rfl) ?_
    refine lv_aload_n hx hb dX3_holdsIn_124 rfl (lv_at hl 1 rfl) ?_
    refine fs_get E hP (k := k) (v := .int (nI a)) 2 fc3 hc hk (by decide) (wm wl_6 (i := 17) rfl) rfl dX3_holdsIn_125 ?_
    refine fs_pi (va_runSN (As := [.ref (fa g j), .int (nI a)]) (rest := []) E.1 (c_X7_watchers l g N ct j 6 f (nI a) (by omega) hj hc2) (lk_RX3_35 E.1.2.2.2.2 (E.2.1.2.1 _ (List.mem_of_getElem? (i := 33) rfl)) ⟨Nat.le_of_ble_eq_true rfl, Nat.le_of_ble_eq_true rfl⟩) (fpreS E hP hS) rfl rfl hl.1 rfl (lv_room (Nat.le_of_ble_eq_true rfl)) dX3_holdsIn_128 ⟨Nat.zero_le _, Nat.zero_le _⟩) hS (fun r_128 locs p_128 hS => ?_)
    refine fs_vi (p_128.trans (congrArg nI (hRW.watch hw hn6 (by omega)))) ?_
    refine lv_aload_n hx hb dX3_holdsIn_131 rfl (lv_at hl 1 rfl) ?_
    refine fs_get E hP (k := k) (v := .int (nI b)) 3 fc3 hc hk (by decide) (wm wl_6 (i := 18) rfl) rfl dX3_holdsIn_132 ?_
    refine lv_icmp_ne (tgt := 142) hx hb dX3_holdsIn_135 (by decide) (fun c_135 => ?_) (fun c_135 => ?_)
    · rw [nI_eq (by omega) (by omega)] at c_135
      refine lv_iconst (v := (nI 0)) hx hb dX3_holdsIn_142 (by decide) ?_
      refine fs_pzret E hr rfl hlk hS dX3_holdsIn_143 ?_
      exact bI_f (by rw [show kd = 4 by omega]; simp only [hd, decide_eq_true_eq]; omega)
    · rw [nI_eq (by omega) (by omega)] at c_135
      refine lv_iconst (v := (nI 1)) hx hb dX3_holdsIn_138 (by decide) ?_
      refine lv_goto (tgt := 143) hx hb dX3_holdsIn_139 (by decide) ?_
      refine fs_pzret E hr rfl hlk hS dX3_holdsIn_143 ?_
      exact bI_t (by rw [show kd = 4 by omega]; simp only [hd, decide_eq_true_eq]; omega)
  refine lv_tableOut (tgt := 144) hx hb dX3_holdsIn_13 (Or.inr (by rw [nI_toInt (by omega)]; omega)) (by decide) ?_
  refine lv_aload_n hx hb dX3_holdsIn_144 rfl (lv_at hl 2 rfl) ?_
  refine lv_iload_n hx hb dX3_holdsIn_145 rfl (lv_at hl 0 rfl) ?_
  refine fs_pi (va_runSN (As := [.ref (fa g j), .int (nI (w a))]) (rest := []) E.1 (c_X7_at l g N ct j 6 f (nI (w a)) (by omega) hj hc2) (lk_RX3_31 E.1.2.2.2.2 (E.2.1.2.1 _ (List.mem_of_getElem? (i := 32) rfl)) ⟨Nat.le_of_ble_eq_true rfl, Nat.le_of_ble_eq_true rfl⟩) (fpreS E hP hS) rfl rfl hl.1 rfl (lv_room (Nat.le_of_ble_eq_true rfl)) dX3_holdsIn_146 ⟨Nat.zero_le _, Nat.zero_le _⟩) hS (fun r_146 locs p_146 hS => ?_)
  refine fs_vi (p_146.trans ((atF_in (by omega) (by omega)).trans (hRW.in (by omega) hn6))) ?_
  refine lv_aload_n hx hb dX3_holdsIn_149 rfl (lv_at hl 1 rfl) ?_
  refine fs_get E hP (k := k) (v := .int (nI b)) 3 fc3 hc hk (by decide) (wm wl_6 (i := 18) rfl) rfl dX3_holdsIn_150 ?_
  refine lv_icmp_ne (tgt := 160) hx hb dX3_holdsIn_153 (by decide) (fun c_153 => ?_) (fun c_153 => ?_)
  · rw [nI_eq (by omega) (by omega)] at c_153
    refine lv_iconst (v := (nI 0)) hx hb dX3_holdsIn_160 (by decide) ?_
    refine fs_pzret E hr rfl hlk hS dX3_holdsIn_161 ?_
    exact bI_f (by rw [show kd = 5 by omega]; simp only [hd, decide_eq_true_eq]; omega)
  · rw [nI_eq (by omega) (by omega)] at c_153
    refine lv_iconst (v := (nI 1)) hx hb dX3_holdsIn_156 (by decide) ?_
    refine lv_goto (tgt := 161) hx hb dX3_holdsIn_157 (by decide) ?_
    refine fs_pzret E hr rfl hlk hS dX3_holdsIn_161 ?_
    exact bI_t (by rw [show kd = 5 by omega]; simp only [hd, decide_eq_true_eq]; omega)

set_option maxRecDepth 100000 in
set_option maxHeartbeats 4000000 in
theorem c_X3_isBrokenIn (l : Launch) (g : fG) (N : Nat) (ct : Nat → va_E) (k j : Nat) (te : Int32) (n kd a b st : Nat) (f : Nat → Int32) (w : Nat → Nat) (hk : k < N) (hj : j < N) (hn6 : n ≤ 6) (hst : st < 3) (hok : okk n kd a b) (hRW : RW n w f) (hw : Wok n w) (hc : ct k = .inr (3, [.int te, .int (nI kd), .int (nI a), .int (nI b), .int (nI st)])) (hc2 : ct j = .inl (fcI g, 6, .inl f)) : Met l yX3_isBrokenIn (wsU yX3_isBrokenIn cX3_isBrokenIn 2 (some .boolean)) rX3_isBrokenIn (fPre g N ct [.ref (fa g k), .ref (fa g j)]) (fQpi (fun r => r = bI (bk n w kd a b st = true))) 0 0 (fB g) := by
  refine fs_start (own := RX3) (lv0 := [(0, .ref (fa g k)), (1, .ref (fa g j))]) (by decide) rfl (Nat.le_of_ble_eq_true rfl) rfl ?_
  intro p e s m args below meth c ls E hr hlk hnm hP hl hS
  have hx := E.1.1
  have hb := E.1.2.1
  refine lv_aload_n hx hb dX3_isBrokenIn_0 rfl (lv_at hl 0 rfl) ?_
  refine lv_aload_n hx hb dX3_isBrokenIn_1 rfl (lv_at hl 1 rfl) ?_
  refine fs_pi (va_runV (As := [.ref (fa g j)]) (rest := []) E.1 (c_X3_holdsIn l g N ct k j te (nI st) n kd a b f w hk hj hn6 hok hRW hw hc hc2) (lk_RX3_38 E.1.2.2.2.2 ⟨Nat.le_of_ble_eq_true rfl, Nat.le_of_ble_eq_true rfl⟩) (fpreV E hP hS fc3 hc hk) rfl rfl hl.1 rfl (lv_room (Nat.le_of_ble_eq_true rfl)) dX3_isBrokenIn_2 ⟨Nat.zero_le _, Nat.zero_le _⟩) hS (fun r_2 locs p_2 hS => ?_)
  refine lv_if_eq (tgt := 24) hx hb dX3_isBrokenIn_5 (by decide) (fun c_5 => ?_) (fun c_5 => ?_)
  · have c_5 := (fb_0 p_2).mp c_5
    refine lv_aload_n hx hb dX3_isBrokenIn_24 rfl (lv_at hl 0 rfl) ?_
    refine fs_get E hP (k := k) (v := .int (nI st)) 4 fc3 hc hk (by decide) (wm wl_6 (i := 19) rfl) rfl dX3_isBrokenIn_25 ?_
    refine lv_iconst (v := (nI 1)) hx hb dX3_isBrokenIn_28 (by decide) ?_
    refine lv_icmp_ne (tgt := 36) hx hb dX3_isBrokenIn_29 (by decide) (fun c_29 => ?_) (fun c_29 => ?_)
    · rw [nI_eq (by omega) (by omega)] at c_29
      refine lv_iconst (v := (nI 0)) hx hb dX3_isBrokenIn_36 (by decide) ?_
      refine fs_pzret E hr rfl hlk hS dX3_isBrokenIn_37 ?_
      exact bI_f (by unfold bk; rw [if_neg c_5]; simp only [decide_eq_true_eq]; omega)
    · rw [nI_eq (by omega) (by omega)] at c_29
      refine lv_iconst (v := (nI 1)) hx hb dX3_isBrokenIn_32 (by decide) ?_
      refine lv_goto (tgt := 37) hx hb dX3_isBrokenIn_33 (by decide) ?_
      refine fs_pzret E hr rfl hlk hS dX3_isBrokenIn_37 ?_
      exact bI_t (by unfold bk; rw [if_neg c_5]; simp only [decide_eq_true_eq]; omega)
  · have c_5 := (fb_1 p_2).mp c_5
    refine lv_aload_n hx hb dX3_isBrokenIn_8 rfl (lv_at hl 0 rfl) ?_
    refine fs_get E hP (k := k) (v := .int (nI st)) 4 fc3 hc hk (by decide) (wm wl_6 (i := 19) rfl) rfl dX3_isBrokenIn_9 ?_
    refine lv_iconst (v := (nI 2)) hx hb dX3_isBrokenIn_12 (by decide) ?_
    refine lv_icmp_ne (tgt := 20) hx hb dX3_isBrokenIn_13 (by decide) (fun c_13 => ?_) (fun c_13 => ?_)
    · rw [nI_eq (by omega) (by omega)] at c_13
      refine lv_iconst (v := (nI 0)) hx hb dX3_isBrokenIn_20 (by decide) ?_
      refine lv_goto (tgt := 37) hx hb dX3_isBrokenIn_21 (by decide) ?_
      refine fs_pzret E hr rfl hlk hS dX3_isBrokenIn_37 ?_
      exact bI_f (by unfold bk; rw [if_pos c_5]; simp only [decide_eq_true_eq]; omega)
    · rw [nI_eq (by omega) (by omega)] at c_13
      refine lv_iconst (v := (nI 1)) hx hb dX3_isBrokenIn_16 (by decide) ?_
      refine lv_goto (tgt := 37) hx hb dX3_isBrokenIn_17 (by decide) ?_
      refine fs_pzret E hr rfl hlk hS dX3_isBrokenIn_37 ?_
      exact bI_t (by unfold bk; rw [if_pos c_5]; simp only [decide_eq_true_eq]; omega)

set_option maxRecDepth 100000 in
set_option maxHeartbeats 4000000 in
theorem c_X1_hasBox (l : Launch) (g : fG) (N : Nat) (ct : Nat → va_E) (h : Nat) (n kt : Nat) (act : Int32) (r1 r2 r3 r4 : Nat) (hh : h < N) (hc : ct h = .inr (1, [.int (nI n), .int act, .int (nI kt), .ref (fa g r1), .ref (fa g r2), .ref (fa g r3), .ref (fa g r4)])) (x : Int32) (hn : n < 2147483648) : Met l yX1_hasBox (wsU yX1_hasBox cX1_hasBox 2 (some .boolean)) rX1_hasBox (fPre g N ct [.ref (fa g h), .int x]) (fQpi (fun r => r = bI (0 ≤ x.toInt ∧ x.toInt < (n : Int)))) 0 0 (fB g) := by
  refine fs_start (own := RX1) (lv0 := [(0, .ref (fa g h)), (1, .int x)]) (by decide) rfl (Nat.le_of_ble_eq_true rfl) rfl ?_
  intro p e s m args below meth c ls E hr hlk hnm hP hl hS
  have hx := E.1.1
  have hb := E.1.2.1
  refine lv_iload_n hx hb dX1_hasBox_0 rfl (lv_at hl 1 rfl) ?_
  refine lv_if_lt (tgt := 16) hx hb dX1_hasBox_1 (by decide) (fun c_1 => ?_) (fun c_1 => ?_)
  · rw [fz_lt] at c_1
    refine lv_iconst (v := (nI 0)) hx hb dX1_hasBox_16 (by decide) ?_
    refine fs_pzret E hr rfl hlk hS dX1_hasBox_17 ?_
    exact bI_f (by omega)
  · rw [fz_lt] at c_1
    refine lv_iload_n hx hb dX1_hasBox_4 rfl (lv_at hl 1 rfl) ?_
    refine lv_aload_n hx hb dX1_hasBox_5 rfl (lv_at hl 0 rfl) ?_
    refine fs_get E hP (k := h) (v := .int (nI n)) 0 fc1 hc hh (by decide) (wm wl_4 (i := 11) rfl) rfl dX1_hasBox_6 ?_
    refine lv_icmp_ge (tgt := 16) hx hb dX1_hasBox_9 (by decide) (fun c_9 => ?_) (fun c_9 => ?_)
    · rw [fn_ge (by omega)] at c_9
      refine lv_iconst (v := (nI 0)) hx hb dX1_hasBox_16 (by decide) ?_
      refine fs_pzret E hr rfl hlk hS dX1_hasBox_17 ?_
      exact bI_f (by omega)
    · rw [fn_ge (by omega)] at c_9
      refine lv_iconst (v := (nI 1)) hx hb dX1_hasBox_12 (by decide) ?_
      refine lv_goto (tgt := 17) hx hb dX1_hasBox_13 (by decide) ?_
      refine fs_pzret E hr rfl hlk hS dX1_hasBox_17 ?_
      exact bI_t (by omega)

set_option maxRecDepth 100000 in
set_option maxHeartbeats 4000000 in
theorem c_X1_suits (l : Launch) (g : fG) (N : Nat) (ct : Nat → va_E) (h : Nat) (n kt : Nat) (act : Int32) (r1 r2 r3 r4 : Nat) (hh : h < N) (hc : ct h = .inr (1, [.int (nI n), .int act, .int (nI kt), .ref (fa g r1), .ref (fa g r2), .ref (fa g r3), .ref (fa g r4)])) (x a b : Int32) (hn : n < 2147483648) : Met l yX1_suits (wsU yX1_suits cX1_suits 4 (some .boolean)) rX1_suits (fPre g N ct [.ref (fa g h), .int x, .int a, .int b]) (fQpi (fun r => r = bI ((0 ≤ x.toInt ∧ x.toInt ≤ 5) ∧ (0 ≤ a.toInt ∧ a.toInt < (n : Int)) ∧ ((x.toInt = 4 ∧ 0 ≤ b.toInt ∧ b.toInt ≤ 6) ∨ (x.toInt ≠ 4 ∧ (0 ≤ b.toInt ∧ b.toInt < (n : Int)) ∧ (x.toInt = 5 ∨ a.toInt ≠ b.toInt)))))) 0 0 (fB g) := by
  refine fs_start (own := RX1) (lv0 := [(0, .ref (fa g h)), (1, .int x), (2, .int a), (3, .int b)]) (by decide) rfl (Nat.le_of_ble_eq_true rfl) rfl ?_
  intro p e s m args below meth c ls E hr hlk hnm hP hl hS
  have hx := E.1.1
  have hb := E.1.2.1
  refine lv_iload_n hx hb dX1_suits_0 rfl (lv_at hl 1 rfl) ?_
  refine lv_if_lt (tgt := 17) hx hb dX1_suits_1 (by decide) (fun c_1 => ?_) (fun c_1 => ?_)
  · rw [fz_lt] at c_1
    refine lv_iconst (v := (nI 0)) hx hb dX1_suits_17 (by decide) ?_
    refine fs_pzret E hr rfl hlk hS dX1_suits_18 ?_
    exact bI_f (by omega)
  · rw [fz_lt] at c_1
    refine lv_iload_n hx hb dX1_suits_4 rfl (lv_at hl 1 rfl) ?_
    refine lv_iconst (v := (nI 5)) hx hb dX1_suits_5 (by decide) ?_
    refine lv_icmp_gt (tgt := 17) hx hb dX1_suits_6 (by decide) (fun c_6 => ?_) (fun c_6 => ?_)
    · rw [fn_gt (by omega)] at c_6
      refine lv_iconst (v := (nI 0)) hx hb dX1_suits_17 (by decide) ?_
      refine fs_pzret E hr rfl hlk hS dX1_suits_18 ?_
      exact bI_f (by omega)
    · rw [fn_gt (by omega)] at c_6
      refine lv_aload_n hx hb dX1_suits_9 rfl (lv_at hl 0 rfl) ?_
      refine lv_iload_n hx hb dX1_suits_10 rfl (lv_at hl 2 rfl) ?_
      refine fs_pi (va_runV (As := [.int a]) (rest := []) E.1 (c_X1_hasBox l g N ct h n kt act r1 r2 r3 r4 hh hc a (by omega)) (lk_RX1_54 E.1.2.2.2.2 ⟨Nat.le_of_ble_eq_true rfl, Nat.le_of_ble_eq_true rfl⟩) (fpreV E hP hS fc1 hc hh) rfl rfl hl.1 rfl (lv_room (Nat.le_of_ble_eq_true rfl)) dX1_suits_11 ⟨Nat.zero_le _, Nat.zero_le _⟩) hS (fun r_11 locs p_11 hS => ?_)
      refine lv_if_ne (tgt := 19) hx hb dX1_suits_14 (by decide) (fun c_14 => ?_) (fun c_14 => ?_)
      · have c_14 := (fb_1 p_11).mp c_14
        refine lv_iload_n hx hb dX1_suits_19 rfl (lv_at hl 1 rfl) ?_
        refine lv_iconst (v := (nI 4)) hx hb dX1_suits_20 (by decide) ?_
        refine lv_icmp_ne (tgt := 40) hx hb dX1_suits_21 (by decide) (fun c_21 => ?_) (fun c_21 => ?_)
        · rw [fn_eq (by omega)] at c_21
          refine lv_aload_n hx hb dX1_suits_40 rfl (lv_at hl 0 rfl) ?_
          refine lv_iload_n hx hb dX1_suits_41 rfl (lv_at hl 3 rfl) ?_
          refine fs_pi (va_runV (As := [.int b]) (rest := []) E.1 (c_X1_hasBox l g N ct h n kt act r1 r2 r3 r4 hh hc b (by omega)) (lk_RX1_54 E.1.2.2.2.2 ⟨Nat.le_of_ble_eq_true rfl, Nat.le_of_ble_eq_true rfl⟩) (fpreV E hP hS fc1 hc hh) rfl rfl hl.1 rfl (lv_room (Nat.le_of_ble_eq_true rfl)) dX1_suits_42 ⟨Nat.zero_le _, Nat.zero_le _⟩) hS (fun r_42 locs p_42 hS => ?_)
          refine lv_if_eq (tgt := 62) hx hb dX1_suits_45 (by decide) (fun c_45 => ?_) (fun c_45 => ?_)
          · have c_45 := (fb_0 p_42).mp c_45
            refine lv_iconst (v := (nI 0)) hx hb dX1_suits_62 (by decide) ?_
            refine fs_pzret E hr rfl hlk hS dX1_suits_63 ?_
            exact bI_f (by omega)
          · have c_45 := (fb_1 p_42).mp c_45
            refine lv_iload_n hx hb dX1_suits_48 rfl (lv_at hl 1 rfl) ?_
            refine lv_iconst (v := (nI 5)) hx hb dX1_suits_49 (by decide) ?_
            refine lv_icmp_eq (tgt := 58) hx hb dX1_suits_50 (by decide) (fun c_50 => ?_) (fun c_50 => ?_)
            · rw [fn_eq (by omega)] at c_50
              refine lv_iconst (v := (nI 1)) hx hb dX1_suits_58 (by decide) ?_
              refine lv_goto (tgt := 63) hx hb dX1_suits_59 (by decide) ?_
              refine fs_pzret E hr rfl hlk hS dX1_suits_63 ?_
              exact bI_t (by omega)
            · rw [fn_eq (by omega)] at c_50
              refine lv_iload_n hx hb dX1_suits_53 rfl (lv_at hl 2 rfl) ?_
              refine lv_iload_n hx hb dX1_suits_54 rfl (lv_at hl 3 rfl) ?_
              refine lv_icmp_eq (tgt := 62) hx hb dX1_suits_55 (by decide) (fun c_55 => ?_) (fun c_55 => ?_)
              · rw [← Int32.toInt_inj] at c_55
                refine lv_iconst (v := (nI 0)) hx hb dX1_suits_62 (by decide) ?_
                refine fs_pzret E hr rfl hlk hS dX1_suits_63 ?_
                exact bI_f (by omega)
              · rw [← Int32.toInt_inj] at c_55
                refine lv_iconst (v := (nI 1)) hx hb dX1_suits_58 (by decide) ?_
                refine lv_goto (tgt := 63) hx hb dX1_suits_59 (by decide) ?_
                refine fs_pzret E hr rfl hlk hS dX1_suits_63 ?_
                exact bI_t (by omega)
        · rw [fn_eq (by omega)] at c_21
          refine lv_iload_n hx hb dX1_suits_24 rfl (lv_at hl 3 rfl) ?_
          refine lv_if_lt (tgt := 38) hx hb dX1_suits_25 (by decide) (fun c_25 => ?_) (fun c_25 => ?_)
          · rw [fz_lt] at c_25
            refine lv_iconst (v := (nI 0)) hx hb dX1_suits_38 (by decide) ?_
            refine fs_pzret E hr rfl hlk hS dX1_suits_39 ?_
            exact bI_f (by omega)
          · rw [fz_lt] at c_25
            refine lv_iload_n hx hb dX1_suits_28 rfl (lv_at hl 3 rfl) ?_
            refine lv_bipush (v := (nI 6)) hx hb dX1_suits_29 (by decide) ?_
            refine lv_icmp_gt (tgt := 38) hx hb dX1_suits_31 (by decide) (fun c_31 => ?_) (fun c_31 => ?_)
            · rw [fn_gt (by omega)] at c_31
              refine lv_iconst (v := (nI 0)) hx hb dX1_suits_38 (by decide) ?_
              refine fs_pzret E hr rfl hlk hS dX1_suits_39 ?_
              exact bI_f (by omega)
            · rw [fn_gt (by omega)] at c_31
              refine lv_iconst (v := (nI 1)) hx hb dX1_suits_34 (by decide) ?_
              refine lv_goto (tgt := 39) hx hb dX1_suits_35 (by decide) ?_
              refine fs_pzret E hr rfl hlk hS dX1_suits_39 ?_
              exact bI_t (by omega)
      · have c_14 := (fb_0 p_11).mp c_14
        refine lv_iconst (v := (nI 0)) hx hb dX1_suits_17 (by decide) ?_
        refine fs_pzret E hr rfl hlk hS dX1_suits_18 ?_
        exact bI_f (by omega)

set_option maxRecDepth 100000 in
set_option maxHeartbeats 4000000 in
theorem c_X1_hasRoomFor (l : Launch) (g : fG) (N : Nat) (ct : Nat → va_E) (h : Nat) (n kt : Nat) (act : Int32) (r1 r2 r3 r4 : Nat) (hh : h < N) (hc : ct h = .inr (1, [.int (nI n), .int act, .int (nI kt), .ref (fa g r1), .ref (fa g r2), .ref (fa g r3), .ref (fa g r4)])) (mm : Nat) (hm : mm < 1000) (hkt : kt ≤ 20) : Met l yX1_hasRoomFor (wsU yX1_hasRoomFor cX1_hasRoomFor 2 (some .boolean)) rX1_hasRoomFor (fPre g N ct [.ref (fa g h), .int (nI mm)]) (fQpi (fun r => r = bI (kt + mm ≤ 20))) 0 0 (fB g) := by
  refine fs_start (own := RX1) (lv0 := [(0, .ref (fa g h)), (1, .int (nI mm))]) (by decide) rfl (Nat.le_of_ble_eq_true rfl) rfl ?_
  intro p e s m args below meth c ls E hr hlk hnm hP hl hS
  have hx := E.1.1
  have hb := E.1.2.1
  refine lv_aload_n hx hb dX1_hasRoomFor_0 rfl (lv_at hl 0 rfl) ?_
  refine fs_get E hP (k := h) (v := .int (nI kt)) 2 fc1 hc hh (by decide) (wm wl_4 (i := 13) rfl) rfl dX1_hasRoomFor_1 ?_
  refine lv_iload_n hx hb dX1_hasRoomFor_4 rfl (lv_at hl 1 rfl) ?_
  refine lv_iadd hx hb dX1_hasRoomFor_5 ?_
  refine fs_vi (y := (nI (kt + mm))) (nI_add kt mm) ?_
  refine lv_bipush (v := (nI 20)) hx hb dX1_hasRoomFor_6 (by decide) ?_
  refine lv_icmp_gt (tgt := 15) hx hb dX1_hasRoomFor_8 (by decide) (fun c_8 => ?_) (fun c_8 => ?_)
  · rw [nI_ltI (by omega) (by omega)] at c_8
    refine lv_iconst (v := (nI 0)) hx hb dX1_hasRoomFor_15 (by decide) ?_
    refine fs_pzret E hr rfl hlk hS dX1_hasRoomFor_16 ?_
    exact bI_f (by omega)
  · rw [nI_ltI (by omega) (by omega)] at c_8
    refine lv_iconst (v := (nI 1)) hx hb dX1_hasRoomFor_11 (by decide) ?_
    refine lv_goto (tgt := 16) hx hb dX1_hasRoomFor_12 (by decide) ?_
    refine fs_pzret E hr rfl hlk hS dX1_hasRoomFor_16 ?_
    exact bI_t (by omega)

set_option maxRecDepth 100000 in
set_option maxHeartbeats 4000000 in
theorem c_X1_rumourAt (l : Launch) (g : fG) (N : Nat) (ct : Nat → va_E) (h kt : Nat) (b0 a0 : Int32) (f4 : Nat → Option Nat) (x : Int32) (hN : h + 25 ≤ N) (hk20 : kt ≤ 20) (hc0 : ct h = .inr (1, [.int b0, .int a0, .int (nI kt), .ref (fa g (h + 1)), .ref (fa g (h + 2)), .ref (fa g (h + 3)), .ref (fa g (h + 4))])) (hc4 : ct (h + 4) = .inl (fcR g, 20, .inr (.inr (.inr (.inr f4))))) (hf4 : ∀ r, r < 20 → f4 r = some (fa g (h + 5 + r))) : Met l yX1_rumourAt (wsU yX1_rumourAt cX1_rumourAt 2 (some (.object "OperaGlasses$Rumour"))) rX1_rumourAt (fPre g N ct [.ref (fa g h), .int x]) (fQpr (fun r => (∃ j, j < kt ∧ x = nI j ∧ r = .ref (fa g (h + 5 + j))) ∨ ((x.toInt < 0 ∨ (kt : Int) ≤ x.toInt) ∧ r = .null))) 0 0 (fB g) := by
  refine fs_start (own := RX1) (lv0 := [(0, .ref (fa g h)), (1, .int x)]) (by decide) rfl (Nat.le_of_ble_eq_true rfl) rfl ?_
  intro p e s m args below meth c ls E hr hlk hnm hP hl hS
  have hx := E.1.1
  have hb := E.1.2.1
  refine lv_iload_n hx hb dX1_rumourAt_0 rfl (lv_at hl 1 rfl) ?_
  refine lv_if_lt (tgt := 30) hx hb dX1_rumourAt_1 (by decide) (fun c_1 => ?_) (fun c_1 => ?_)
  · rw [fz_lt] at c_1
    refine lv_null hx hb dX1_rumourAt_30 ?_
    refine fs_paret E hr (Or.inl rfl) hlk hS dX1_rumourAt_31 ?_
    exact Or.inr ⟨by omega, rfl⟩
  · rw [fz_lt] at c_1
    have c_1n : 0 ≤ x.toInt := by omega
    refine lv_iload_n hx hb dX1_rumourAt_4 rfl (lv_at hl 1 rfl) ?_
    refine lv_aload_n hx hb dX1_rumourAt_5 rfl (lv_at hl 0 rfl) ?_
    refine fs_get E hP (k := h) (v := .int (nI kt)) 2 fc1 hc0 (by omega) (by decide) (wm wl_4 (i := 13) rfl) rfl dX1_rumourAt_6 ?_
    refine lv_icmp_ge (tgt := 30) hx hb dX1_rumourAt_9 (by decide) (fun c_9 => ?_) (fun c_9 => ?_)
    · rw [fn_ge (by omega)] at c_9
      refine lv_null hx hb dX1_rumourAt_30 ?_
      refine fs_paret E hr (Or.inl rfl) hlk hS dX1_rumourAt_31 ?_
      exact Or.inr ⟨by omega, rfl⟩
    · rw [fn_ge (by omega)] at c_9
      refine lv_iload_n hx hb dX1_rumourAt_12 rfl (lv_at hl 1 rfl) ?_
      refine lv_aload_n hx hb dX1_rumourAt_13 rfl (lv_at hl 0 rfl) ?_
      refine fs_get E hP (k := h) (v := .ref (fa g (h + 4))) 6 fc1 hc0 (by omega) (by decide) (wm wl_2 (i := 15) rfl) rfl dX1_rumourAt_14 ?_
      refine fs_alenR E hP (k := (h + 4)) hc4 (by omega) dX1_rumourAt_17 ?_
      refine lv_icmp_ge (tgt := 30) hx hb dX1_rumourAt_18 (by decide) (fun c_18 => ?_) (fun c_18 => ?_)
      · rw [fn_ge (by omega)] at c_18
        refine lv_null hx hb dX1_rumourAt_30 ?_
        refine fs_paret E hr (Or.inl rfl) hlk hS dX1_rumourAt_31 ?_
        exact Or.inr ⟨by omega, rfl⟩
      · rw [fn_ge (by omega)] at c_18
        refine lv_aload_n hx hb dX1_rumourAt_21 rfl (lv_at hl 0 rfl) ?_
        refine fs_get E hP (k := h) (v := .ref (fa g (h + 4))) 6 fc1 hc0 (by omega) (by decide) (wm wl_2 (i := 15) rfl) rfl dX1_rumourAt_22 ?_
        refine lv_iload_n hx hb dX1_rumourAt_25 rfl (lv_at hl 1 rfl) ?_
        refine fs_aaldR E hP (k := (h + 4)) hc4 (by omega) (fin_of (by omega) (by omega)) dX1_rumourAt_26 ?_
        refine fs_vv (y := .ref (fa g (h + 5 + x.toNatClampNeg))) (by rw [hf4 _ (by rw [fcl c_1n]; omega)]; rfl) ?_
        refine lv_goto (tgt := 31) hx hb dX1_rumourAt_27 (by decide) ?_
        refine fs_paret E hr (Or.inr ⟨_, rfl⟩) hlk hS dX1_rumourAt_31 ?_
        obtain ⟨j, hj, e⟩ := fex (x := x) (n := kt) (by omega) (by omega)
        exact Or.inl ⟨j, hj, e, by rw [e, nI_clamp (by omega)]⟩
