/-! the String constant of the signs -/
def fk (g : fG) : Nat := g.2.2.2.1
def fv (g : fG) : Nat := g.2.2.2.2
theorem fpreVS {p : Program} {s : State} {m : MethodId} {args : Array Value} {c : Code} {H : Heap} {locs : List Loc} {cc : ByteArray} {nL : Nat} {g : fG} {N : Nat} {ct : Nat → va_E} {own : String} (E : fE p m c cc nL s args own g) (hP : fP g N ct H) (hS : va_S (fB g) s.heap H locs) {As : List Value} : PreV s H RJ0 (fk g) (fPre g N ct (.ref (fk g) :: As)) As :=
  ⟨fblind, vk_recv E.2.2.1 (i := 0) (by decide) hS, fun U hU hW => ⟨rfl, E.2.1.moved hW, by rw [hU]; exact fX.moved hW.alike hS.2.1 E.2.2, by rw [hU]; exact hP⟩⟩
def kdn (c : Nat) : Nat := if c = 62 then 0 else if c = 47 then 1 else if c = 61 then 2 else if c = 126 then 3 else if c = 35 then 4 else if c = 42 then 5 else 6
def kdI (c : Nat) : Int32 := if kdn c = 6 then -1 else nI (kdn c)
def sixN (j : Nat) : Nat := if j = 0 then 62 else if j = 1 then 47 else if j = 2 then 61 else if j = 3 then 126 else if j = 4 then 35 else 42
theorem kdn_le (c : Nat) : kdn c ≤ 6 := by unfold kdn; (repeat' split) <;> omega
theorem six_at {j : Nat} (h : j < 6) : Value.int (([[(62 : Int32), 47, 61, 126, 35, 42]].getD 0 []).getD (nI j).toNatClampNeg 0) = .int (nI (sixN j)) := by
  rw [nI_clamp (by omega)]
  rcases (show j = 0 ∨ j = 1 ∨ j = 2 ∨ j = 3 ∨ j = 4 ∨ j = 5 by omega) with rfl | rfl | rfl | rfl | rfl | rfl <;> rfl
theorem six_hit {j c : Nat} (h : j < 6) (e : sixN j = c) : nI j = kdI c := by
  rcases (show j = 0 ∨ j = 1 ∨ j = 2 ∨ j = 3 ∨ j = 4 ∨ j = 5 by omega) with rfl | rfl | rfl | rfl | rfl | rfl <;> (subst e; rfl)
theorem six_no {c : Nat} (h : ∀ j, j < 6 → ¬ sixN j = c) : (-1 : Int32) = kdI c := by
  have h0 := h 0 (by omega); have h1 := h 1 (by omega); have h2 := h 2 (by omega); have h3 := h 3 (by omega); have h4 := h 4 (by omega); have h5 := h 5 (by omega)
  simp only [sixN] at h0 h1 h2 h3 h4 h5
  have e : kdn c = 6 := by
    unfold kdn
    rw [if_neg (fun q => h0 (by rw [q]; rfl)), if_neg (fun q => h1 (by rw [q]; rfl)), if_neg (fun q => h2 (by rw [q]; rfl)), if_neg (fun q => h3 (by rw [q]; rfl)), if_neg (fun q => h4 (by rw [q]; rfl)), if_neg (fun q => h5 (by rw [q]; rfl))]
  unfold kdI; rw [e]; rfl
theorem byte_id : ∀ n, n < 128 → (nI n).toInt8.toInt32 = nI n := by decide +kernel
theorem kdI_lt {c : Nat} : kdI c < 0 ↔ kdn c = 6 := by
  unfold kdI
  have := kdn_le c
  by_cases e : kdn c = 6
  · rw [if_pos e]; exact ⟨fun _ => e, fun _ => by decide⟩
  · rw [if_neg e, fz_ltN (by omega)]; omega

set_option maxRecDepth 100000 in
set_option maxHeartbeats 4000000 in
theorem c_J0_isLatin1_aae02 (l : Launch) (g : fG) (N : Nat) (ct : Nat → va_E)  : Met l yJ0_isLatin1_aae02 (wsU yJ0_isLatin1_aae02 cJ0_isLatin1_aae02 1 (some .boolean)) rJ0_isLatin1_aae02 (fPre g N ct [.ref (fk g)]) (fQpi (fun r => r = bI True)) 0 0 (fB g) := by
  refine fs_start (own := RJ0) (lv0 := [(0, .ref (fk g))]) (by decide) rfl (Nat.le_of_ble_eq_true rfl) rfl ?_
  intro p e s m args below meth c ls E hr hlk hnm hP hl hS
  have hx := E.1.1
  have hb := E.1.2.1
  refine va_gets hx hb E.2.2.2 hS E.1.2.2.2.1 (E.1.2.2.2.2 _ (wm wl_11 (i := 17) rfl)) (fun _ h9 => h9) dJ0_isLatin1_aae02_0 ?_
  refine lv_if_eq (tgt := 17) hx hb dJ0_isLatin1_aae02_3 (by decide) (fun c_3 => ?_) (fun c_3 => ?_)
  · refine lv_iconst (v := (nI 0)) hx hb dJ0_isLatin1_aae02_17 (by decide) ?_
    refine fs_pzret E hr rfl hlk hS dJ0_isLatin1_aae02_18 ?_
    exact absurd c_3 (by decide)
  · refine lv_aload_n hx hb dJ0_isLatin1_aae02_6 rfl (lv_at hl 0 rfl) ?_
    refine vk_getf hx hb (E.2.2.1.1 0 (by decide)).2.1 hS E.1.2.2.2.1 (E.1.2.2.2.2 _ (wm wl_11 (i := 18) rfl)) (fun _ h9 => h9) dJ0_isLatin1_aae02_7 ?_
    refine lv_if_ne (tgt := 17) hx hb dJ0_isLatin1_aae02_10 (by decide) (fun c_10 => ?_) (fun c_10 => ?_)
    · refine lv_iconst (v := (nI 0)) hx hb dJ0_isLatin1_aae02_17 (by decide) ?_
      refine fs_pzret E hr rfl hlk hS dJ0_isLatin1_aae02_18 ?_
      exact absurd rfl c_10
    · refine lv_iconst (v := (nI 1)) hx hb dJ0_isLatin1_aae02_13 (by decide) ?_
      refine lv_goto (tgt := 18) hx hb dJ0_isLatin1_aae02_14 (by decide) ?_
      refine fs_pzret E hr rfl hlk hS dJ0_isLatin1_aae02_18 ?_
      exact bI_t trivial

set_option maxRecDepth 100000 in
set_option maxHeartbeats 4000000 in
theorem c_J0_coder_7d493 (l : Launch) (g : fG) (N : Nat) (ct : Nat → va_E)  : Met l yJ0_coder_7d493 (wsU yJ0_coder_7d493 cJ0_coder_7d493 1 (some .byte)) rJ0_coder_7d493 (fPre g N ct [.ref (fk g)]) (fQpi (fun r => r = nI 0)) 0 0 (fB g) := by
  refine fs_start (own := RJ0) (lv0 := [(0, .ref (fk g))]) (by decide) rfl (Nat.le_of_ble_eq_true rfl) rfl ?_
  intro p e s m args below meth c ls E hr hlk hnm hP hl hS
  have hx := E.1.1
  have hb := E.1.2.1
  refine va_gets hx hb E.2.2.2 hS E.1.2.2.2.1 (E.1.2.2.2.2 _ (wm wl_11 (i := 17) rfl)) (fun _ h9 => h9) dJ0_coder_7d493_0 ?_
  refine lv_if_eq (tgt := 13) hx hb dJ0_coder_7d493_3 (by decide) (fun c_3 => ?_) (fun c_3 => ?_)
  · refine lv_iconst (v := (nI 1)) hx hb dJ0_coder_7d493_13 (by decide) ?_
    refine fs_pzret E hr rfl hlk hS dJ0_coder_7d493_14 ?_
    exact absurd c_3 (by decide)
  · refine lv_aload_n hx hb dJ0_coder_7d493_6 rfl (lv_at hl 0 rfl) ?_
    refine vk_getf hx hb (E.2.2.1.1 0 (by decide)).2.1 hS E.1.2.2.2.1 (E.1.2.2.2.2 _ (wm wl_11 (i := 18) rfl)) (fun _ h9 => h9) dJ0_coder_7d493_7 ?_
    refine lv_goto (tgt := 14) hx hb dJ0_coder_7d493_10 (by decide) ?_
    refine fs_pzret E hr rfl hlk hS dJ0_coder_7d493_14 ?_
    rfl

set_option maxRecDepth 100000 in
set_option maxHeartbeats 4000000 in
theorem c_J0_length_8abf5 (l : Launch) (g : fG) (N : Nat) (ct : Nat → va_E)  : Met l yJ0_length_8abf5 (wsU yJ0_length_8abf5 cJ0_length_8abf5 1 (some .int)) rJ0_length_8abf5 (fPre g N ct [.ref (fk g)]) (fQpi (fun r => r = nI 6)) 0 0 (fB g) := by
  refine fs_start (own := RJ0) (lv0 := [(0, .ref (fk g))]) (by decide) rfl (Nat.le_of_ble_eq_true rfl) rfl ?_
  intro p e s m args below meth c ls E hr hlk hnm hP hl hS
  have hx := E.1.1
  have hb := E.1.2.1
  refine lv_aload_n hx hb dJ0_length_8abf5_0 rfl (lv_at hl 0 rfl) ?_
  refine vk_getf hx hb (E.2.2.1.1 0 (by decide)).2.2.1 hS E.1.2.2.2.1 (E.1.2.2.2.2 _ (wm wl_11 (i := 12) rfl)) (fun _ h9 => h9) dJ0_length_8abf5_1 ?_
  refine va_tlen hx hb (E.2.2.1.1 0 (by decide)).2.2.2 hS (v := nI 6) rfl dJ0_length_8abf5_4 ?_
  refine lv_aload_n hx hb dJ0_length_8abf5_5 rfl (lv_at hl 0 rfl) ?_
  refine fs_pi (va_runV (As := []) (rest := [.int (nI 6)]) E.1 (c_J0_coder_7d493 l g N ct ) (lk_RJ0_335 E.1.2.2.2.2 ⟨Nat.le_of_ble_eq_true rfl, Nat.le_of_ble_eq_true rfl⟩) (fpreVS E hP hS) rfl rfl hl.1 rfl (lv_room (Nat.le_of_ble_eq_true rfl)) dJ0_length_8abf5_6 ⟨Nat.zero_le _, Nat.zero_le _⟩) hS (fun r_6 locs p_6 hS => ?_)
  refine fs_vi (y := (nI 0)) p_6 ?_
  refine lv_ishr hx hb dJ0_length_8abf5_9 ?_
  refine fs_vi (y := (nI 6)) (by decide) ?_
  refine fs_piret E hr hlk hS dJ0_length_8abf5_10 ?_
  rfl

set_option maxRecDepth 100000 in
set_option maxHeartbeats 4000000 in
theorem c_J1_canEncode_9a6ad (l : Launch) (g : fG) (N : Nat) (ct : Nat → va_E) (c0 : Nat) (hc0 : c0 < 128) : Met l yJ1_canEncode_9a6ad (wsU yJ1_canEncode_9a6ad cJ1_canEncode_9a6ad 1 (some .boolean)) rJ1_canEncode_9a6ad (fPre g N ct [.int (nI c0)]) (fQpi (fun r => r = bI True)) 0 0 (fB g) := by
  refine fs_start (own := RJ1) (lv0 := [(0, .int (nI c0))]) (by decide) rfl (Nat.le_of_ble_eq_true rfl) rfl ?_
  intro p e s m args below meth c ls E hr hlk hnm hP hl hS
  have hx := E.1.1
  have hb := E.1.2.1
  refine lv_iload_n hx hb dJ1_canEncode_9a6ad_0 rfl (lv_at hl 0 rfl) ?_
  refine lv_if_lt (tgt := 15) hx hb dJ1_canEncode_9a6ad_1 (by decide) (fun c_1 => ?_) (fun c_1 => ?_)
  · rw [fz_ltN (by omega)] at c_1
    refine lv_iconst (v := (nI 0)) hx hb dJ1_canEncode_9a6ad_15 (by decide) ?_
    refine fs_pzret E hr rfl hlk hS dJ1_canEncode_9a6ad_16 ?_
    exfalso; omega
  · rw [fz_ltN (by omega)] at c_1
    refine lv_iload_n hx hb dJ1_canEncode_9a6ad_4 rfl (lv_at hl 0 rfl) ?_
    refine lv_sipush (v := (nI 255)) hx hb dJ1_canEncode_9a6ad_5 (by decide) ?_
    refine lv_icmp_gt (tgt := 15) hx hb dJ1_canEncode_9a6ad_8 (by decide) (fun c_8 => ?_) (fun c_8 => ?_)
    · rw [nI_ltI (by omega) (by omega)] at c_8
      refine lv_iconst (v := (nI 0)) hx hb dJ1_canEncode_9a6ad_15 (by decide) ?_
      refine fs_pzret E hr rfl hlk hS dJ1_canEncode_9a6ad_16 ?_
      exfalso; omega
    · rw [nI_ltI (by omega) (by omega)] at c_8
      refine lv_iconst (v := (nI 1)) hx hb dJ1_canEncode_9a6ad_11 (by decide) ?_
      refine lv_goto (tgt := 16) hx hb dJ1_canEncode_9a6ad_12 (by decide) ?_
      refine fs_pzret E hr rfl hlk hS dJ1_canEncode_9a6ad_16 ?_
      exact bI_t trivial

set_option maxRecDepth 100000 in
set_option maxHeartbeats 4000000 in
theorem c_J1_indexOfChar_4cfef (l : Launch) (g : fG) (N : Nat) (ct : Nat → va_E) (c0 : Nat) (hc0 : c0 < 128) : Met l yJ1_indexOfChar_4cfef (wsU yJ1_indexOfChar_4cfef cJ1_indexOfChar_4cfef 6 (some .int)) rJ1_indexOfChar_4cfef (fPre g N ct [.ref (fv g), .int (nI c0), .int (nI 0), .int (nI 6)]) (fQpi (fun r => r = kdI c0)) 0 0 (fB g) := by
  refine fs_start (own := RJ1) (lv0 := [(0, .ref (fv g)), (1, .int (nI c0)), (2, .int (nI 0)), (3, .int (nI 6))]) (by decide) rfl (Nat.le_of_ble_eq_true rfl) rfl ?_
  intro p e s m args below meth c ls E hr hlk hnm hP hl hS
  have hx := E.1.1
  have hb := E.1.2.1
  refine lv_iload_n hx hb dJ1_indexOfChar_4cfef_0 rfl (lv_at hl 1 rfl) ?_
  refine lv_i2b (v := (nI c0)) hx hb dJ1_indexOfChar_4cfef_1 (byte_id c0 hc0) ?_
  refine lv_istore (lv' := [(4, .int (nI c0)), (0, .ref (fv g)), (1, .int (nI c0)), (2, .int (nI 0)), (3, .int (nI 6))]) hx hb dJ1_indexOfChar_4cfef_2 hl (by decide) rfl (fun ls hl => ?_)
  refine lv_iload_n hx hb dJ1_indexOfChar_4cfef_4 rfl (lv_at hl 3 rfl) ?_
  refine lv_istore (lv' := [(5, .int (nI 0)), (4, .int (nI c0)), (0, .ref (fv g)), (1, .int (nI c0)), (2, .int (nI 0)), (3, .int (nI 6))]) hx hb dJ1_indexOfChar_4cfef_5 hl (by decide) rfl (fun ls hl => ?_)
  refine fs_indP (g := g) (St := Nat) (fun (i : Nat) (ls : Array Slot) => lv_has ls 6 [(0, .ref (fv g)), (1, .int (nI c0)), (2, .int (nI 0)), (3, .int (nI 6)), (4, .int (nI c0)), (5, .int (nI i))] ∧ i ≤ 6 ∧ ∀ j, j < i → ¬ sixN j = c0) (fun (i : Nat) => 6 - i) ?_ 0 ls _ ⟨lv_sub hl [2, 3, 4, 5, 1, 0] rfl, Nat.zero_le _, fun j hj => absurd hj (by omega)⟩ hS
  clear hl hS
  intro st ls locs hI hS ih
  obtain ⟨i, rfl⟩ : ∃ z, z = st := ⟨_, rfl⟩
  obtain ⟨hl, hI⟩ := hI
  have hI1 := hI.1
  have hs6 : sixN i < 200 := by unfold sixN; (repeat' split) <;> omega
  refine lv_iload hx hb dJ1_indexOfChar_4cfef_7 (lv_at hl 5 rfl) ?_
  refine lv_iload_n hx hb dJ1_indexOfChar_4cfef_9 rfl (lv_at hl 3 rfl) ?_
  refine lv_icmp_ge (tgt := 31) hx hb dJ1_indexOfChar_4cfef_10 (by decide) (fun c_10 => ?_) (fun c_10 => ?_)
  · rw [nI_leI (by omega) (by omega)] at c_10
    refine lv_iconst (v := (-1)) hx hb dJ1_indexOfChar_4cfef_31 (by decide) ?_
    refine fs_piret E hr hlk hS dJ1_indexOfChar_4cfef_32 ?_
    exact six_no (fun j hj => hI.2 j (by omega))
  · rw [nI_leI (by omega) (by omega)] at c_10
    refine lv_aload_n hx hb dJ1_indexOfChar_4cfef_13 rfl (lv_at hl 0 rfl) ?_
    refine lv_iload hx hb dJ1_indexOfChar_4cfef_14 (lv_at hl 5 rfl) ?_
    refine va_tb hx hb (E.2.2.1.1 0 (by decide)).2.2.2 hS (v := .int (nI (sixN i))) (vp_in_nI (show i < 6 by omega) (show 6 < 2 ^ 31 by decide)) (six_at (by omega)) dJ1_indexOfChar_4cfef_16 ?_
    refine lv_iload hx hb dJ1_indexOfChar_4cfef_17 (lv_at hl 4 rfl) ?_
    refine lv_icmp_ne (tgt := 25) hx hb dJ1_indexOfChar_4cfef_19 (by decide) (fun c_19 => ?_) (fun c_19 => ?_)
    · rw [nI_eq (by omega) (by omega)] at c_19
      refine lv_iinc (v := (nI (i + 1))) (lv' := [(5, .int (nI (i + 1))), (0, .ref (fv g)), (1, .int (nI c0)), (2, .int (nI 0)), (3, .int (nI 6)), (4, .int (nI c0))]) hx hb dJ1_indexOfChar_4cfef_25 hl (k := 5) rfl (nI_1 _) (by decide) rfl (fun ls hl => ?_)
      refine lv_goto (tgt := 7) hx hb dJ1_indexOfChar_4cfef_28 (by decide) ?_
      exact ih (i + 1) ls _ (by (try dsimp only); omega) ⟨lv_sub hl [1, 2, 3, 4, 5, 0] rfl, by omega, fun j hj => (Nat.lt_or_ge j i).elim (fun z => hI.2 j z) (fun z => by rw [show j = i by omega]; exact c_19)⟩ hS
    · rw [nI_eq (by omega) (by omega)] at c_19
      refine lv_iload hx hb dJ1_indexOfChar_4cfef_22 (lv_at hl 5 rfl) ?_
      refine fs_piret E hr hlk hS dJ1_indexOfChar_4cfef_24 ?_
      exact six_hit (by omega) c_19

set_option maxRecDepth 100000 in
set_option maxHeartbeats 4000000 in
theorem c_J1_indexOf_4cfef (l : Launch) (g : fG) (N : Nat) (ct : Nat → va_E) (c0 : Nat) (hc0 : c0 < 128) : Met l yJ1_indexOf_4cfef (wsU yJ1_indexOf_4cfef cJ1_indexOf_4cfef 4 (some .int)) rJ1_indexOf_4cfef (fPre g N ct [.ref (fv g), .int (nI c0), .int (nI 0), .int (nI 6)]) (fQpi (fun r => r = kdI c0)) 0 0 (fB g) := by
  refine fs_start (own := RJ1) (lv0 := [(0, .ref (fv g)), (1, .int (nI c0)), (2, .int (nI 0)), (3, .int (nI 6))]) (by decide) rfl (Nat.le_of_ble_eq_true rfl) rfl ?_
  intro p e s m args below meth c ls E hr hlk hnm hP hl hS
  have hx := E.1.1
  have hb := E.1.2.1
  refine lv_iload_n hx hb dJ1_indexOf_4cfef_0 rfl (lv_at hl 1 rfl) ?_
  refine fs_pi (va_runS (As := [.int (nI c0)]) (rest := []) E.1 (c_J1_canEncode_9a6ad l g N ct c0 (by omega)) (lk_RJ1_88 E.1.2.2.2.2 ⟨Nat.le_of_ble_eq_true rfl, Nat.le_of_ble_eq_true rfl⟩) (fpreS E hP hS) rfl rfl hl.1 rfl (lv_room (Nat.le_of_ble_eq_true rfl)) dJ1_indexOf_4cfef_1 ⟨Nat.zero_le _, Nat.zero_le _⟩) hS (fun r_1 locs p_1 hS => ?_)
  refine lv_if_ne (tgt := 9) hx hb dJ1_indexOf_4cfef_4 (by decide) (fun c_4 => ?_) (fun c_4 => ?_)
  · have c_4 := (fb_1 p_1).mp c_4
    refine lv_iload_n hx hb dJ1_indexOf_4cfef_9 rfl (lv_at hl 2 rfl) ?_
    refine lv_iconst (v := (nI 0)) hx hb dJ1_indexOf_4cfef_10 (by decide) ?_
    refine va_mmax hx hb (by rw [E.1.2.2.1]; exact hl.1.symm) E.1.2.2.2.1 (E.1.2.2.2.2 _ (wm wl_12 (i := 7) rfl)) (E.1.2.2.2.2 _ (wm wl_12 (i := 8) rfl)) (E.1.2.2.2.2 _ (wm wl_6 (i := 6) rfl)) (E.1.2.2.2.2 _ (wm wl_12 (i := 9) rfl)) (Nat.le_of_ble_eq_true rfl) (Nat.le_of_ble_eq_true rfl) (Nat.zero_le _) (Nat.zero_le _) dJ1_indexOf_4cfef_11 ?_
    refine fs_vi (y := (nI 0)) (by decide) ?_
    refine lv_istore_n (lv' := [(2, .int (nI 0)), (0, .ref (fv g)), (1, .int (nI c0)), (3, .int (nI 6))]) hx hb dJ1_indexOf_4cfef_14 rfl hl (by decide) rfl (fun ls hl => ?_)
    refine lv_iload_n hx hb dJ1_indexOf_4cfef_15 rfl (lv_at hl 3 rfl) ?_
    refine lv_aload_n hx hb dJ1_indexOf_4cfef_16 rfl (lv_at hl 1 rfl) ?_
    refine va_tlen hx hb (E.2.2.1.1 0 (by decide)).2.2.2 hS (v := nI 6) rfl dJ1_indexOf_4cfef_17 ?_
    refine va_mmin hx hb (by rw [E.1.2.2.1]; exact hl.1.symm) E.1.2.2.2.1 (E.1.2.2.2.2 _ (wm wl_12 (i := 10) rfl)) (E.1.2.2.2.2 _ (wm wl_6 (i := 5) rfl)) (E.1.2.2.2.2 _ (wm wl_6 (i := 6) rfl)) (E.1.2.2.2.2 _ (wm wl_6 (i := 7) rfl)) (Nat.le_of_ble_eq_true rfl) (Nat.le_of_ble_eq_true rfl) (Nat.zero_le _) (Nat.zero_le _) dJ1_indexOf_4cfef_18 ?_
    refine fs_vi (y := (nI 6)) (by decide) ?_
    refine lv_istore_n (lv' := [(3, .int (nI 6)), (2, .int (nI 0)), (0, .ref (fv g)), (1, .int (nI c0))]) hx hb dJ1_indexOf_4cfef_21 rfl hl (by decide) rfl (fun ls hl => ?_)
    refine lv_iload_n hx hb dJ1_indexOf_4cfef_22 rfl (lv_at hl 1 rfl) ?_
    refine lv_iload_n hx hb dJ1_indexOf_4cfef_23 rfl (lv_at hl 0 rfl) ?_
    refine lv_icmp_lt (tgt := 29) hx hb dJ1_indexOf_4cfef_24 (by decide) (fun c_24 => ?_) (fun c_24 => ?_)
    · rw [nI_ltI (by omega) (by omega)] at c_24
      refine lv_aload_n hx hb dJ1_indexOf_4cfef_29 rfl (lv_at hl 2 rfl) ?_
      refine lv_iload_n hx hb dJ1_indexOf_4cfef_30 rfl (lv_at hl 3 rfl) ?_
      refine lv_iload_n hx hb dJ1_indexOf_4cfef_31 rfl (lv_at hl 1 rfl) ?_
      refine lv_iload_n hx hb dJ1_indexOf_4cfef_32 rfl (lv_at hl 0 rfl) ?_
      refine fs_pi (va_runS (As := [.ref (fv g), .int (nI c0), .int (nI 0), .int (nI 6)]) (rest := []) E.1 (c_J1_indexOfChar_4cfef l g N ct c0 (by omega)) (lk_RJ1_95 E.1.2.2.2.2 ⟨Nat.le_of_ble_eq_true rfl, Nat.le_of_ble_eq_true rfl⟩) (fpreS E hP hS) rfl rfl hl.1 rfl (lv_room (Nat.le_of_ble_eq_true rfl)) dJ1_indexOf_4cfef_33 ⟨Nat.zero_le _, Nat.zero_le _⟩) hS (fun r_33 locs p_33 hS => ?_)
      refine fs_piret E hr hlk hS dJ1_indexOf_4cfef_36 ?_
      exact p_33
    · rw [nI_ltI (by omega) (by omega)] at c_24
      refine lv_iconst (v := (-1)) hx hb dJ1_indexOf_4cfef_27 (by decide) ?_
      refine fs_piret E hr hlk hS dJ1_indexOf_4cfef_28 ?_
      exact absurd c_24 (by omega)
  · have c_4 := (fb_0 p_1).mp c_4
    refine lv_iconst (v := (-1)) hx hb dJ1_indexOf_4cfef_7 (by decide) ?_
    refine fs_piret E hr hlk hS dJ1_indexOf_4cfef_8 ?_
    exact absurd trivial c_4

set_option maxRecDepth 100000 in
set_option maxHeartbeats 4000000 in
theorem c_J0_indexOf_7cf53 (l : Launch) (g : fG) (N : Nat) (ct : Nat → va_E) (c0 : Nat) (hc0 : c0 < 128) : Met l yJ0_indexOf_7cf53 (wsU yJ0_indexOf_7cf53 cJ0_indexOf_7cf53 3 (some .int)) rJ0_indexOf_7cf53 (fPre g N ct [.ref (fk g), .int (nI c0), .int (nI 0)]) (fQpi (fun r => r = kdI c0)) 0 0 (fB g) := by
  refine fs_start (own := RJ0) (lv0 := [(0, .ref (fk g)), (1, .int (nI c0)), (2, .int (nI 0))]) (by decide) rfl (Nat.le_of_ble_eq_true rfl) rfl ?_
  intro p e s m args below meth c ls E hr hlk hnm hP hl hS
  have hx := E.1.1
  have hb := E.1.2.1
  refine lv_aload_n hx hb dJ0_indexOf_7cf53_0 rfl (lv_at hl 0 rfl) ?_
  refine fs_pi (va_runV (As := []) (rest := []) E.1 (c_J0_isLatin1_aae02 l g N ct ) (lk_RJ0_492 E.1.2.2.2.2 ⟨Nat.le_of_ble_eq_true rfl, Nat.le_of_ble_eq_true rfl⟩) (fpreVS E hP hS) rfl rfl hl.1 rfl (lv_room (Nat.le_of_ble_eq_true rfl)) dJ0_indexOf_7cf53_1 ⟨Nat.zero_le _, Nat.zero_le _⟩) hS (fun r_1 locs p_1 hS => ?_)
  refine lv_if_eq (tgt := 23) hx hb dJ0_indexOf_7cf53_4 (by decide) (fun c_4 => ?_) (fun c_4 => ?_)
  · have c_4 := (fb_0 p_1).mp c_4
    exact absurd trivial c_4
  · have c_4 := (fb_1 p_1).mp c_4
    refine lv_aload_n hx hb dJ0_indexOf_7cf53_7 rfl (lv_at hl 0 rfl) ?_
    refine vk_getf hx hb (E.2.2.1.1 0 (by decide)).2.2.1 hS E.1.2.2.2.1 (E.1.2.2.2.2 _ (wm wl_11 (i := 12) rfl)) (fun _ h9 => h9) dJ0_indexOf_7cf53_8 ?_
    refine lv_iload_n hx hb dJ0_indexOf_7cf53_11 rfl (lv_at hl 1 rfl) ?_
    refine lv_iload_n hx hb dJ0_indexOf_7cf53_12 rfl (lv_at hl 2 rfl) ?_
    refine lv_aload_n hx hb dJ0_indexOf_7cf53_13 rfl (lv_at hl 0 rfl) ?_
    refine fs_pi (va_runV (As := []) (rest := [.int (nI 0), .int (nI c0), .ref (fv g)]) E.1 (c_J0_length_8abf5 l g N ct ) (lk_RJ0_505 E.1.2.2.2.2 ⟨Nat.le_of_ble_eq_true rfl, Nat.le_of_ble_eq_true rfl⟩) (fpreVS E hP hS) rfl rfl hl.1 rfl (lv_room (Nat.le_of_ble_eq_true rfl)) dJ0_indexOf_7cf53_14 ⟨Nat.zero_le _, Nat.zero_le _⟩) hS (fun r_14 locs p_14 hS => ?_)
    refine fs_vi (y := (nI 6)) p_14 ?_
    refine fs_pi (va_runS (As := [.ref (fv g), .int (nI c0), .int (nI 0), .int (nI 6)]) (rest := []) E.1 (c_J1_indexOf_4cfef l g N ct c0 (by omega)) (lk_RJ0_637 E.1.2.2.2.2 ⟨Nat.le_of_ble_eq_true rfl, Nat.le_of_ble_eq_true rfl⟩) (fpreS E hP hS) rfl rfl hl.1 rfl (lv_room (Nat.le_of_ble_eq_true rfl)) dJ0_indexOf_7cf53_17 ⟨Nat.zero_le _, Nat.zero_le _⟩) hS (fun r_17 locs p_17 hS => ?_)
    refine lv_goto (tgt := 36) hx hb dJ0_indexOf_7cf53_20 (by decide) ?_
    refine fs_piret E hr hlk hS dJ0_indexOf_7cf53_36 ?_
    exact p_17

set_option maxRecDepth 100000 in
set_option maxHeartbeats 4000000 in
theorem c_J0_indexOf_0f7a4 (l : Launch) (g : fG) (N : Nat) (ct : Nat → va_E) (c0 : Nat) (hc0 : c0 < 128) : Met l yJ0_indexOf_0f7a4 (wsU yJ0_indexOf_0f7a4 cJ0_indexOf_0f7a4 2 (some .int)) rJ0_indexOf_0f7a4 (fPre g N ct [.ref (fk g), .int (nI c0)]) (fQpi (fun r => r = kdI c0)) 0 0 (fB g) := by
  refine fs_start (own := RJ0) (lv0 := [(0, .ref (fk g)), (1, .int (nI c0))]) (by decide) rfl (Nat.le_of_ble_eq_true rfl) rfl ?_
  intro p e s m args below meth c ls E hr hlk hnm hP hl hS
  have hx := E.1.1
  have hb := E.1.2.1
  refine lv_aload_n hx hb dJ0_indexOf_0f7a4_0 rfl (lv_at hl 0 rfl) ?_
  refine lv_iload_n hx hb dJ0_indexOf_0f7a4_1 rfl (lv_at hl 1 rfl) ?_
  refine lv_iconst (v := (nI 0)) hx hb dJ0_indexOf_0f7a4_2 (by decide) ?_
  refine fs_pi (va_runV (As := [.int (nI c0), .int (nI 0)]) (rest := []) E.1 (c_J0_indexOf_7cf53 l g N ct c0 (by omega)) (lk_RJ0_633 E.1.2.2.2.2 ⟨Nat.le_of_ble_eq_true rfl, Nat.le_of_ble_eq_true rfl⟩) (fpreVS E hP hS) rfl rfl hl.1 rfl (lv_room (Nat.le_of_ble_eq_true rfl)) dJ0_indexOf_0f7a4_3 ⟨Nat.zero_le _, Nat.zero_le _⟩) hS (fun r_3 locs p_3 hS => ?_)
  refine fs_piret E hr hlk hS dJ0_indexOf_0f7a4_6 ?_
  exact p_3
