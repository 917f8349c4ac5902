theorem SurvP.most {g : fG} {ct ct1 : Nat → va_E} {v m : Nat} {σ : Nat → Int32} {a b : Int32} (H : SurvP g ct v σ m) (h : ∀ ws mp mw : Int32, ct v = .inr (5, [.ref (fa g (v + 1)), .int ws, .int mp, .int mw, .ref (fa g (v + 3)), .ref (fa g (v + 4)), .ref (fa g (v + 5)), .ref (fa g (v + 6))]) → ct1 v = .inr (5, [.ref (fa g (v + 1)), .int ws, .int a, .int b, .ref (fa g (v + 3)), .ref (fa g (v + 4)), .ref (fa g (v + 5)), .ref (fa g (v + 6))])) (e : ∀ j, j = v + 3 ∨ j = v + 4 ∨ j = v + 5 ∨ j = v + 6 → ct1 j = ct j) : SurvP g ct1 v σ m := by
  obtain ⟨⟨mp, mw, h1⟩, ⟨f1, a1, b1⟩, ⟨f2, a2, b2⟩, ⟨f3, a3, b3⟩⟩ := H
  exact ⟨⟨a, b, h _ _ _ h1⟩, ⟨f1, (e _ (by omega)).trans a1, b1⟩, ⟨f2, (e _ (by omega)).trans a2, b2⟩, ⟨f3, (e _ (by omega)).trans a3, b3⟩⟩
theorem SurvSh.most {g : fG} {ct ct1 : Nat → va_E} {v : Nat} {a b : Int32} (H : SurvSh g ct v) (h : ∀ ws mp mw : Int32, ct v = .inr (5, [.ref (fa g (v + 1)), .int ws, .int mp, .int mw, .ref (fa g (v + 3)), .ref (fa g (v + 4)), .ref (fa g (v + 5)), .ref (fa g (v + 6))]) → ct1 v = .inr (5, [.ref (fa g (v + 1)), .int ws, .int a, .int b, .ref (fa g (v + 3)), .ref (fa g (v + 4)), .ref (fa g (v + 5)), .ref (fa g (v + 6))])) (hw : WalkSh g ct1 v) (e : ∀ j, j = v + 3 ∨ j = v + 4 ∨ j = v + 5 ∨ j = v + 6 → ct1 j = ct j) : SurvSh g ct1 v := by
  obtain ⟨⟨ws, mp, mw, h1⟩, ⟨f1, a1⟩, ⟨f2, a2⟩, ⟨f3, a3⟩, -, h6⟩ := H
  exact ⟨⟨_, _, _, h _ _ _ h1⟩, ⟨f1, (e _ (by omega)).trans a1⟩, ⟨f2, (e _ (by omega)).trans a2⟩, ⟨f3, (e _ (by omega)).trans a3⟩, hw, h6.keep (e _ (by omega))⟩
theorem OGx.atm {g : fG} {ct ct1 : Nat → va_E} {sv a b : Int32} {σ : Nat → Int32} {k : Nat} {hs : Nat → Nat → Int32} {u1 u2 : Bool} {s1 s2 : Nat → Int32} {t : Nat → Nat} {len : Nat} (H : OGx g ct1 sv σ k hs u1 s1 u2 s2 t len) (hsv : sv = nI 0 ∨ (sv = nI 1 ∧ SurvP g ct 232 σ (mM σ))) (h : ∀ ws mp mw : Int32, ct 232 = .inr (5, [.ref (fa g (232 + 1)), .int ws, .int mp, .int mw, .ref (fa g (232 + 3)), .ref (fa g (232 + 4)), .ref (fa g (232 + 5)), .ref (fa g (232 + 6))]) → ct1 232 = .inr (5, [.ref (fa g (232 + 1)), .int ws, .int a, .int b, .ref (fa g (232 + 3)), .ref (fa g (232 + 4)), .ref (fa g (232 + 5)), .ref (fa g (232 + 6))])) (e : ∀ j, j = 232 + 3 ∨ j = 232 + 4 ∨ j = 232 + 5 ∨ j = 232 + 6 → ct1 j = ct j) : OGAt g ct1 σ k hs u1 s1 u2 s2 t len :=
  ⟨sv, H, hsv.imp id (fun z => ⟨z.1, z.2.most h e⟩)⟩
theorem mwQ_lt {σ : Nat → Int32} (hG : Good σ) (m : Nat) : (mwQ σ m).1 ≤ 6 ∧ (mwQ σ m).2 ≤ 6 := by
  induction m with
  | zero => exact ⟨by unfold mwQ; omega, by unfold mwQ; omega⟩
  | succ m ih =>
    unfold mwQ
    by_cases h : okq σ m = true
    · rw [if_pos h]; exact mwP_le hG.n6 ih _ hG.n6
    · rw [if_neg h]; exact ih
theorem shR_n {σ : Nat → Int32} {x : Int32} (h : shF σ = none) : shR σ x = -6 := by unfold shR; rw [h]
theorem shR_0 {σ : Nat → Int32} {x : Int32} {b : Nat} (h : shF σ = some b) (hx : x = 0) : shR σ x = nI b := by unfold shR; rw [h]; exact if_pos hx
theorem shR_1 {σ : Nat → Int32} {x : Int32} {b : Nat} (h : shF σ = some b) (hx : ¬ x = 0) : shR σ x = nI (WOn σ b) := by unfold shR; rw [h]; exact if_neg hx
theorem blR_p {σ : Nat → Int32} {x : Int32} (h : 0 < Wn σ) : blR σ x = -6 := by unfold blR; rw [if_pos h]
theorem blR_n {σ : Nat → Int32} {x : Int32} (hw : ¬ 0 < Wn σ) (h : blF σ = none) : blR σ x = -6 := by unfold blR; rw [if_neg hw, h]
theorem blR_0 {σ : Nat → Int32} {x : Int32} {b : Nat} (hw : ¬ 0 < Wn σ) (h : blF σ = some b) (hx : x = 0) : blR σ x = nI b := by unfold blR; rw [if_neg hw, h]; exact if_pos hx
theorem blR_1 {σ : Nat → Int32} {x : Int32} {b : Nat} (hw : ¬ 0 < Wn σ) (h : blF σ = some b) (hx : ¬ x = 0) : blR σ x = nI (ONn σ b) := by unfold blR; rw [if_neg hw, h]; exact if_neg hx

set_option maxRecDepth 100000 in
set_option maxHeartbeats 4000000 in
theorem c_X7_rumour (l : Launch) (g : fG) (N : Nat) (ct : Nat → va_E) (σ : Nat → Int32) (k : Nat) (hs : Nat → Nat → Int32) (u1 : Bool) (s1 : Nat → Int32) (u2 : Bool) (s2 : Nat → Int32) (t : Nat → Nat) (len : Nat) (hN : 239 ≤ N) (hO : OGAt g ct σ k hs u1 s1 u2 s2 t len) (x y : Int32) : Met l yX7_rumour (wsU yX7_rumour cX7_rumour 4 (some .int)) rX7_rumour (fPre g N ct [.ref (fa g 0), .int x, .int y]) (fQi g N (fun r ct1 => r = (if hrx σ x then rmF σ x.toNatClampNeg y else -1) ∧ OGAt g ct1 σ k hs u1 s1 u2 s2 t len ∧ fSame 0 239 ct ct1)) 0 0 (fB g) := by
  refine fs_start (own := RX7) (lv0 := [(0, .ref (fa g 0)), (1, .int x), (2, .int y)]) (by decide) rfl (Nat.le_of_ble_eq_true rfl) rfl ?_
  intro p e s m args below meth c ls E hr hlk hnm hP hl hS
  have hx := E.1.1
  have hb := E.1.2.1
  obtain ⟨sv, hO1, hsv⟩ := id hO
  obtain ⟨o_1x, o_1H, o_1G, o_1Y, o_11, o_12, o_1P, o_1V⟩ := id (hO1)
  have o_1n3 := o_1G.n3
  have o_1n6 := o_1G.n6
  have o_1k := o_1G.k
  obtain ⟨o_1h0, ⟨o_1fl, o_1hl, o_1lw⟩, ⟨o_1fs, o_1hs, o_1sw⟩, ⟨o_1fg, o_1hg, o_1gw⟩, ⟨o_1fr, o_1hr, o_1rw⟩, o_1ru⟩ := id o_1H
  obtain ⟨o_1n, o_1nl, o_1y0, o_1k6, -, -, -⟩ := id o_1Y
  obtain ⟨⟨o_1ws, o_1mp, o_1mw, o_1v0⟩, -⟩ := id o_1V
  have o_1p0 := o_1P.1
  have o_1p60 := o_1P.2.2.1
  have o_1a0 := o_11.1
  have o_1b0 := o_12.1
  refine lv_aload_n hx hb dX7_rumour_0 rfl (lv_at hl 0 rfl) ?_
  refine fs_get E hP (k := 0) (v := .ref (fa g 1)) 0 fc7 o_1x (by omega) (by decide) (wm wl_1 (i := 13) rfl) rfl dX7_rumour_1 ?_
  refine lv_iload_n hx hb dX7_rumour_4 rfl (lv_at hl 1 rfl) ?_
  refine fs_pr (va_runV (As := [.int x]) (rest := []) E.1 (c_X1_rumourAt l g N ct 1 (nT σ) _ _ o_1fr x (by omega) (by omega) o_1h0 o_1hr o_1rw) (lk_RX7_118 E.1.2.2.2.2 ⟨Nat.le_of_ble_eq_true rfl, Nat.le_of_ble_eq_true rfl⟩) (fpreV E hP hS fc1 o_1h0 (by omega)) rfl rfl hl.1 rfl (lv_room (Nat.le_of_ble_eq_true rfl)) dX7_rumour_5 ⟨Nat.zero_le _, Nat.zero_le _⟩) hS (fun r_5 locs p_5 hS => ?_)
  rcases p_5 with ⟨p0, hp0, rfl, hr5⟩ | ⟨hout, hr5⟩
  · refine fs_vv (y := .ref (fa g (6 + p0))) hr5 ?_
    have u_2st := (o_1G.r hp0).2.2.2
    obtain ⟨_, _, _, _, _, u_2, u_2e⟩ := o_1ru p0 (by omega)
    obtain ⟨rfl, rfl, rfl, rfl, rfl⟩ := u_2e hp0
    refine lv_astore_n (lv' := [(3, .ref (fa g (6 + p0))), (0, .ref (fa g 0)), (1, .int (nI p0)), (2, .int y)]) hx hb dX7_rumour_8 rfl hl (by decide) rfl (fun ls hl => ?_)
    refine lv_aload_n hx hb dX7_rumour_9 rfl (lv_at hl 0 rfl) ?_
    refine lv_ifnonnull (tgt := 15) hx hb dX7_rumour_10 (by decide) ?_
    have hrx0 : hrx σ (nI p0) := ⟨by rw [nI_toInt (by omega)]; omega, by rw [nI_toInt (by omega)]; omega⟩
    refine lv_iload_n hx hb dX7_rumour_15 rfl (lv_at hl 3 rfl) ?_
    rcases Decidable.em (y = nI 0) with k_16_0 | k_16_0
    · refine fs_vi k_16_0 ?_
      refine lv_tableIn (off := 44) (tgt := 60) hx hb dX7_rumour_16 (by decide) (by decide) rfl (by decide) ?_
      refine lv_aload_n hx hb dX7_rumour_60 rfl (lv_at hl 0 rfl) ?_
      refine fs_getN E hP (k := (6 + p0)) (v := .int (nI (rk σ p0 0))) 0 fc3 u_2 (by omega) (by decide) (j := 0) rfl rfl dX7_rumour_61 ?_
      refine fs_iret E hr hlk hP hS dX7_rumour_64 ?_
      rw [nI_cl (show p0 < 1000000 by omega)]
      refine ⟨?_, hO, fSame.rf⟩
      rw [if_pos hrx0, rmF, if_pos k_16_0]
    rcases Decidable.em (y = nI 1) with k_16_1 | k_16_1
    · refine fs_vi k_16_1 ?_
      refine lv_tableIn (off := 49) (tgt := 65) hx hb dX7_rumour_16 (by decide) (by decide) rfl (by decide) ?_
      refine lv_aload_n hx hb dX7_rumour_65 rfl (lv_at hl 0 rfl) ?_
      refine fs_getN E hP (k := (6 + p0)) (v := .int (nI (rk σ p0 1))) 1 fc3 u_2 (by omega) (by decide) (j := 2) rfl rfl dX7_rumour_66 ?_
      refine fs_iret E hr hlk hP hS dX7_rumour_69 ?_
      rw [nI_cl (show p0 < 1000000 by omega)]
      refine ⟨?_, hO, fSame.rf⟩
      rw [if_pos hrx0, rmF, if_neg k_16_0, if_pos k_16_1]
    rcases Decidable.em (y = nI 2) with k_16_2 | k_16_2
    · refine fs_vi k_16_2 ?_
      refine lv_tableIn (off := 54) (tgt := 70) hx hb dX7_rumour_16 (by decide) (by decide) rfl (by decide) ?_
      refine lv_aload_n hx hb dX7_rumour_70 rfl (lv_at hl 0 rfl) ?_
      refine fs_getN E hP (k := (6 + p0)) (v := .int (nI (rk σ p0 2))) 2 fc3 u_2 (by omega) (by decide) (j := 3) rfl rfl dX7_rumour_71 ?_
      refine fs_iret E hr hlk hP hS dX7_rumour_74 ?_
      rw [nI_cl (show p0 < 1000000 by omega)]
      refine ⟨?_, hO, fSame.rf⟩
      rw [if_pos hrx0, rmF, if_neg k_16_0, if_neg k_16_1, if_pos k_16_2]
    rcases Decidable.em (y = nI 3) with k_16_3 | k_16_3
    · refine fs_vi k_16_3 ?_
      refine lv_tableIn (off := 59) (tgt := 75) hx hb dX7_rumour_16 (by decide) (by decide) rfl (by decide) ?_
      refine lv_aload_n hx hb dX7_rumour_75 rfl (lv_at hl 0 rfl) ?_
      refine fs_getN E hP (k := (6 + p0)) (v := .int (nI (rk σ p0 3))) 3 fc3 u_2 (by omega) (by decide) (j := 4) rfl rfl dX7_rumour_76 ?_
      refine fs_iret E hr hlk hP hS dX7_rumour_79 ?_
      rw [nI_cl (show p0 < 1000000 by omega)]
      refine ⟨?_, hO, fSame.rf⟩
      rw [if_pos hrx0, rmF, if_neg k_16_0, if_neg k_16_1, if_neg k_16_2, if_pos k_16_3]
    rcases Decidable.em (y = nI 4) with k_16_4 | k_16_4
    · refine fs_vi k_16_4 ?_
      refine lv_tableIn (off := 64) (tgt := 80) hx hb dX7_rumour_16 (by decide) (by decide) rfl (by decide) ?_
      refine lv_aload_n hx hb dX7_rumour_80 rfl (lv_at hl 0 rfl) ?_
      refine fs_getN E hP (k := (6 + p0)) (v := .int (nI (rk σ p0 4))) 4 fc3 u_2 (by omega) (by decide) (j := 5) rfl rfl dX7_rumour_81 ?_
      refine fs_iret E hr hlk hP hS dX7_rumour_84 ?_
      rw [nI_cl (show p0 < 1000000 by omega)]
      refine ⟨?_, hO, fSame.rf⟩
      rw [if_pos hrx0, rmF, if_neg k_16_0, if_neg k_16_1, if_neg k_16_2, if_neg k_16_3, if_pos k_16_4]
    rcases Decidable.em (y = nI 5) with k_16_5 | k_16_5
    · refine fs_vi k_16_5 ?_
      refine lv_tableIn (off := 69) (tgt := 85) hx hb dX7_rumour_16 (by decide) (by decide) rfl (by decide) ?_
      refine lv_aload_n hx hb dX7_rumour_85 rfl (lv_at hl 0 rfl) ?_
      refine lv_aload_n hx hb dX7_rumour_86 rfl (lv_at hl 1 rfl) ?_
      refine fs_get E hP (k := 0) (v := .ref (fa g 1)) 0 fc7 o_1x (by omega) (by decide) (wm wl_1 (i := 13) rfl) rfl dX7_rumour_87 ?_
      refine fs_getN E hP (k := 1) (v := .ref (fa g 2)) 3 fc1 o_1h0 (by omega) (by decide) (j := 12) rfl rfl dX7_rumour_90 ?_
      refine fs_pi (va_runV (As := [.ref (fa g 2)]) (rest := []) E.1 (c_X3_holdsIn l g N ct (6 + p0) 2 (nI (rk σ p0 0)) (nI (rk σ p0 4)) (nB σ) (rk σ p0 1) (rk σ p0 2) (rk σ p0 3) o_1fl (lkf σ) (by omega) (by omega) o_1n6 (o_1G.r hp0).2.2.1 o_1lw o_1G.wok u_2 o_1hl) (lk_RX7_181 E.1.2.2.2.2 ⟨Nat.le_of_ble_eq_true rfl, Nat.le_of_ble_eq_true rfl⟩) (fpreV E hP hS fc3 u_2 (by omega)) rfl rfl hl.1 rfl (lv_room (Nat.le_of_ble_eq_true rfl)) dX7_rumour_93 ⟨Nat.zero_le _, Nat.zero_le _⟩) hS (fun r_93 locs p_93 hS => ?_)
      refine lv_if_eq (tgt := 103) hx hb dX7_rumour_96 (by decide) (fun c_96 => ?_) (fun c_96 => ?_)
      · have c_96 := (fb_0 p_93).mp c_96
        refine lv_iconst (v := (nI 0)) hx hb dX7_rumour_103 (by decide) ?_
        refine fs_iret E hr hlk hP hS dX7_rumour_104 ?_
        rw [nI_cl (show p0 < 1000000 by omega)]
        refine ⟨?_, hO, fSame.rf⟩
        rw [if_pos hrx0, rmF, if_neg k_16_0, if_neg k_16_1, if_neg k_16_2, if_neg k_16_3, if_neg k_16_4, if_pos k_16_5]
        exact bI_f c_96
      · have c_96 := (fb_1 p_93).mp c_96
        refine lv_iconst (v := (nI 1)) hx hb dX7_rumour_99 (by decide) ?_
        refine lv_goto (tgt := 104) hx hb dX7_rumour_100 (by decide) ?_
        refine fs_iret E hr hlk hP hS dX7_rumour_104 ?_
        rw [nI_cl (show p0 < 1000000 by omega)]
        refine ⟨?_, hO, fSame.rf⟩
        rw [if_pos hrx0, rmF, if_neg k_16_0, if_neg k_16_1, if_neg k_16_2, if_neg k_16_3, if_neg k_16_4, if_pos k_16_5]
        exact bI_t c_96
    rcases Decidable.em (y = nI 6) with k_16_6 | k_16_6
    · refine fs_vi k_16_6 ?_
      refine lv_tableIn (off := 89) (tgt := 105) hx hb dX7_rumour_16 (by decide) (by decide) rfl (by decide) ?_
      refine lv_aload_n hx hb dX7_rumour_105 rfl (lv_at hl 1 rfl) ?_
      refine fs_r (va_runV (As := []) (rest := []) E.1 (c_X7_surveyNow l g N ct σ k hs u1 s1 u2 s2 t len (by omega) hO) (lk_RX7_131 E.1.2.2.2.2 ⟨Nat.le_of_ble_eq_true rfl, Nat.le_of_ble_eq_true rfl⟩) (fpreV E hP hS fc7 o_1x (by omega)) rfl rfl hl.1 rfl (lv_room (Nat.le_of_ble_eq_true rfl)) dX7_rumour_106 ⟨Nat.zero_le _, Nat.zero_le _⟩) hS (fun r_106 ct_3 H locs p_106 hP hS => ?_)
      refine fs_vv (y := .ref (fa g 232)) p_106.1 ?_
      obtain ⟨o_4x, o_4H, o_4G, o_4Y, o_41, o_42, o_4P, o_4V⟩ := id (p_106.2.1)
      have o_4n3 := o_4G.n3
      have o_4n6 := o_4G.n6
      have o_4k := o_4G.k
      obtain ⟨o_4h0, ⟨o_4fl, o_4hl, o_4lw⟩, ⟨o_4fs, o_4hs, o_4sw⟩, ⟨o_4fg, o_4hg, o_4gw⟩, ⟨o_4fr, o_4hr, o_4rw⟩, o_4ru⟩ := id o_4H
      obtain ⟨o_4n, o_4nl, o_4y0, o_4k6, -, -, -⟩ := id o_4Y
      obtain ⟨⟨o_4mp, o_4mw, o_4v0⟩, ⟨o_4fv, o_4v3, o_4vw⟩, ⟨o_4fo, o_4v4, o_4ow⟩, ⟨o_4fb, o_4v5, o_4bw⟩⟩ := id (p_106.2.2.1)
      have o_4p0 := o_4P.1
      have o_4p60 := o_4P.2.2.1
      have o_4a0 := o_41.1
      have o_4b0 := o_42.1
      refine fs_getN E hP (k := 232) (v := .ref (fa g 236)) 5 fc5 o_4v0 (by omega) (by decide) (j := 21) rfl rfl dX7_rumour_109 ?_
      refine lv_iload_n hx hb dX7_rumour_112 rfl (lv_at hl 2 rfl) ?_
      refine fs_pi (va_runS (As := [.ref (fa g 236), .int (nI p0)]) (rest := []) E.1 (c_X7_at l g N ct_3 236 20 o_4fo (nI p0) (by omega) (by omega) o_4v4) (lk_RX7_66 E.1.2.2.2.2 ⟨Nat.le_of_ble_eq_true rfl, Nat.le_of_ble_eq_true rfl⟩) (fpreS E hP hS) rfl rfl hl.1 rfl (lv_room (Nat.le_of_ble_eq_true rfl)) dX7_rumour_113 ⟨Nat.zero_le _, Nat.zero_le _⟩) hS (fun r_113 locs p_113 hS => ?_)
      refine fs_vi (y := (nI (HDn σ p0))) (p_113.trans ((atF_in (by omega) (by omega)).trans (o_4ow p0 hp0))) ?_
      refine fs_iret E hr hlk hP hS dX7_rumour_116 ?_
      rw [nI_cl (show p0 < 1000000 by omega)]
      refine ⟨?_, (OGx.at1 p_106.2.1 p_106.2.2.1), (show fSame 0 239 _ _ from (fSame.tr2 fSame.rf p_106.2.2.2 (by omega) (by omega)))⟩
      rw [if_pos hrx0, rmF, if_neg k_16_0, if_neg k_16_1, if_neg k_16_2, if_neg k_16_3, if_neg k_16_4, if_neg k_16_5, if_pos k_16_6]
    refine lv_tableOut (tgt := 117) hx hb dX7_rumour_16 (ftab_0_6 k_16_0 k_16_1 k_16_2 k_16_3 k_16_4 k_16_5 k_16_6) (by decide) ?_
    refine lv_bipush (v := (-2)) hx hb dX7_rumour_117 (by decide) ?_
    refine fs_iret E hr hlk hP hS dX7_rumour_119 ?_
    rw [nI_cl (show p0 < 1000000 by omega)]
    refine ⟨?_, hO, fSame.rf⟩
    rw [if_pos hrx0, rmF, if_neg k_16_0, if_neg k_16_1, if_neg k_16_2, if_neg k_16_3, if_neg k_16_4, if_neg k_16_5, if_neg k_16_6]
  · refine fs_vv (y := .null) hr5 ?_
    refine lv_astore_nN (lv' := [(3, .null), (0, .ref (fa g 0)), (1, .int x), (2, .int y)]) hx hb dX7_rumour_8 rfl hl (by decide) rfl (fun ls hl => ?_)
    refine lv_aload_nN hx hb dX7_rumour_9 rfl (lv_at hl 0 rfl) ?_
    refine lv_ifnonnullN hx hb dX7_rumour_10 ?_
    refine lv_iconst (v := (-1)) hx hb dX7_rumour_13 (by decide) ?_
    refine fs_iret E hr hlk hP hS dX7_rumour_14 ?_
    refine ⟨?_, hO, fSame.rf⟩
    rw [if_neg (fun z => by have z1 := z.1; have z2 := z.2; omega)]

set_option maxRecDepth 100000 in
set_option maxHeartbeats 4000000 in
theorem c_X7_count (l : Launch) (g : fG) (N : Nat) (ct : Nat → va_E) (σ : Nat → Int32) (k : Nat) (hs : Nat → Nat → Int32) (u1 : Bool) (s1 : Nat → Int32) (u2 : Bool) (s2 : Nat → Int32) (t : Nat → Nat) (len : Nat) (hN : 239 ≤ N) (hO : OGAt g ct σ k hs u1 s1 u2 s2 t len) (y : Int32) : Met l yX7_count (wsU yX7_count cX7_count 2 (some .int)) rX7_count (fPre g N ct [.ref (fa g 0), .int y]) (fQi g N (fun r ct1 => r = ctF σ len k y ∧ OGAt g ct1 σ k hs u1 s1 u2 s2 t len ∧ fSame 0 239 ct ct1)) 0 0 (fB g) := by
  refine fs_start (own := RX7) (lv0 := [(0, .ref (fa g 0)), (1, .int y)]) (by decide) rfl (Nat.le_of_ble_eq_true rfl) rfl ?_
  intro p e s m args below meth c ls E hr hlk hnm hP hl hS
  have hx := E.1.1
  have hb := E.1.2.1
  obtain ⟨sv, hO1, hsv⟩ := id hO
  obtain ⟨o_1x, o_1H, o_1G, o_1Y, o_11, o_12, o_1P, o_1V⟩ := id (hO1)
  have o_1n3 := o_1G.n3
  have o_1n6 := o_1G.n6
  have o_1k := o_1G.k
  obtain ⟨o_1h0, ⟨o_1fl, o_1hl, o_1lw⟩, ⟨o_1fs, o_1hs, o_1sw⟩, ⟨o_1fg, o_1hg, o_1gw⟩, ⟨o_1fr, o_1hr, o_1rw⟩, o_1ru⟩ := id o_1H
  obtain ⟨o_1n, o_1nl, o_1y0, o_1k6, -, -, -⟩ := id o_1Y
  obtain ⟨⟨o_1ws, o_1mp, o_1mw, o_1v0⟩, -⟩ := id o_1V
  have o_1p0 := o_1P.1
  have o_1p60 := o_1P.2.2.1
  have o_1a0 := o_11.1
  have o_1b0 := o_12.1
  refine lv_iload_n hx hb dX7_count_0 rfl (lv_at hl 1 rfl) ?_
  rcases Decidable.em (y = nI 0) with k_1_0 | k_1_0
  · refine fs_vi k_1_0 ?_
    refine lv_tableIn (off := 59) (tgt := 60) hx hb dX7_count_1 (by decide) (by decide) rfl (by decide) ?_
    refine lv_aload_n hx hb dX7_count_60 rfl (lv_at hl 0 rfl) ?_
    refine fs_get E hP (k := 0) (v := .ref (fa g 1)) 0 fc7 o_1x (by omega) (by decide) (wm wl_1 (i := 13) rfl) rfl dX7_count_61 ?_
    refine fs_getN E hP (k := 1) (v := .int (nI (nB σ))) 0 fc1 o_1h0 (by omega) (by decide) (j := 8) rfl rfl dX7_count_64 ?_
    refine fs_iret E hr hlk hP hS dX7_count_67 ?_
    refine ⟨?_, hO, fSame.rf⟩
    rw [ctF, if_pos k_1_0]
  rcases Decidable.em (y = nI 1) with k_1_1 | k_1_1
  · refine fs_vi k_1_1 ?_
    refine lv_tableIn (off := 67) (tgt := 68) hx hb dX7_count_1 (by decide) (by decide) rfl (by decide) ?_
    refine lv_aload_n hx hb dX7_count_68 rfl (lv_at hl 0 rfl) ?_
    refine fs_get E hP (k := 0) (v := .ref (fa g 1)) 0 fc7 o_1x (by omega) (by decide) (wm wl_1 (i := 13) rfl) rfl dX7_count_69 ?_
    refine fs_getN E hP (k := 1) (v := .int (nI (nT σ))) 2 fc1 o_1h0 (by omega) (by decide) (j := 11) rfl rfl dX7_count_72 ?_
    refine fs_iret E hr hlk hP hS dX7_count_75 ?_
    refine ⟨?_, hO, fSame.rf⟩
    rw [ctF, if_neg k_1_0, if_pos k_1_1]
  rcases Decidable.em (y = nI 2) with k_1_2 | k_1_2
  · refine fs_vi k_1_2 ?_
    refine lv_tableIn (off := 75) (tgt := 76) hx hb dX7_count_1 (by decide) (by decide) rfl (by decide) ?_
    refine lv_aload_n hx hb dX7_count_76 rfl (lv_at hl 0 rfl) ?_
    refine fs_get E hP (k := 0) (v := .ref (fa g 1)) 0 fc7 o_1x (by omega) (by decide) (wm wl_1 (i := 13) rfl) rfl dX7_count_77 ?_
    refine fs_pi (va_runV (As := []) (rest := []) E.1 (c_X1_openRumours l g N ct 1 σ (by omega) o_1G o_1H) (lk_RX7_188 E.1.2.2.2.2 ⟨Nat.le_of_ble_eq_true rfl, Nat.le_of_ble_eq_true rfl⟩) (fpreV E hP hS fc1 o_1h0 (by omega)) rfl rfl hl.1 rfl (lv_room (Nat.le_of_ble_eq_true rfl)) dX7_count_80 ⟨Nat.zero_le _, Nat.zero_le _⟩) hS (fun r_80 locs p_80 hS => ?_)
    refine fs_vi (y := (nI (cN (fun i => decide (rk σ i 4 = 0)) (nT σ)))) p_80 ?_
    refine fs_iret E hr hlk hP hS dX7_count_83 ?_
    refine ⟨?_, hO, fSame.rf⟩
    rw [ctF, if_neg k_1_0, if_neg k_1_1, if_pos k_1_2]
  rcases Decidable.em (y = nI 3) with k_1_3 | k_1_3
  · refine fs_vi k_1_3 ?_
    refine lv_tableIn (off := 83) (tgt := 84) hx hb dX7_count_1 (by decide) (by decide) rfl (by decide) ?_
    refine lv_aload_n hx hb dX7_count_84 rfl (lv_at hl 0 rfl) ?_
    refine fs_r (va_runV (As := []) (rest := []) E.1 (c_X7_surveyNow l g N ct σ k hs u1 s1 u2 s2 t len (by omega) hO) (lk_RX7_131 E.1.2.2.2.2 ⟨Nat.le_of_ble_eq_true rfl, Nat.le_of_ble_eq_true rfl⟩) (fpreV E hP hS fc7 o_1x (by omega)) rfl rfl hl.1 rfl (lv_room (Nat.le_of_ble_eq_true rfl)) dX7_count_85 ⟨Nat.zero_le _, Nat.zero_le _⟩) hS (fun r_85 ct_2 H locs p_85 hP hS => ?_)
    refine fs_vv (y := .ref (fa g 232)) p_85.1 ?_
    obtain ⟨o_3x, o_3H, o_3G, o_3Y, o_31, o_32, o_3P, o_3V⟩ := id (p_85.2.1)
    have o_3n3 := o_3G.n3
    have o_3n6 := o_3G.n6
    have o_3k := o_3G.k
    obtain ⟨o_3h0, ⟨o_3fl, o_3hl, o_3lw⟩, ⟨o_3fs, o_3hs, o_3sw⟩, ⟨o_3fg, o_3hg, o_3gw⟩, ⟨o_3fr, o_3hr, o_3rw⟩, o_3ru⟩ := id o_3H
    obtain ⟨o_3n, o_3nl, o_3y0, o_3k6, -, -, -⟩ := id o_3Y
    obtain ⟨⟨o_3mp, o_3mw, o_3v0⟩, ⟨o_3fv, o_3v3, o_3vw⟩, ⟨o_3fo, o_3v4, o_3ow⟩, ⟨o_3fb, o_3v5, o_3bw⟩⟩ := id (p_85.2.2.1)
    have o_3p0 := o_3P.1
    have o_3p60 := o_3P.2.2.1
    have o_3a0 := o_31.1
    have o_3b0 := o_32.1
    refine fs_getN E hP (k := 232) (v := .int (nI (Wn σ))) 1 fc5 o_3v0 (by omega) (by decide) (j := 18) rfl rfl dX7_count_88 ?_
    refine fs_iret E hr hlk hP hS dX7_count_91 ?_
    refine ⟨?_, (OGx.at1 p_85.2.1 p_85.2.2.1), (show fSame 0 239 _ _ from (fSame.tr2 fSame.rf p_85.2.2.2 (by omega) (by omega)))⟩
    rw [ctF, if_neg k_1_0, if_neg k_1_1, if_neg k_1_2, if_pos k_1_3]
  rcases Decidable.em (y = nI 4) with k_1_4 | k_1_4
  · refine fs_vi k_1_4 ?_
    refine lv_tableIn (off := 91) (tgt := 92) hx hb dX7_count_1 (by decide) (by decide) rfl (by decide) ?_
    refine lv_aload_n hx hb dX7_count_92 rfl (lv_at hl 0 rfl) ?_
    refine fs_get E hP (k := 0) (v := .ref (fa g 1)) 0 fc7 o_1x (by omega) (by decide) (wm wl_1 (i := 13) rfl) rfl dX7_count_93 ?_
    refine lv_iconst (v := (nI 0)) hx hb dX7_count_96 (by decide) ?_
    refine lv_aload_n hx hb dX7_count_97 rfl (lv_at hl 0 rfl) ?_
    refine fs_get E hP (k := 0) (v := .ref (fa g 1)) 0 fc7 o_1x (by omega) (by decide) (wm wl_1 (i := 13) rfl) rfl dX7_count_98 ?_
    refine fs_getN E hP (k := 1) (v := .ref (fa g 2)) 3 fc1 o_1h0 (by omega) (by decide) (j := 12) rfl rfl dX7_count_101 ?_
    refine fs_pi (va_runV (As := [.int (nI 0), .ref (fa g 2)]) (rest := []) E.1 (c_X1_firstBroken l g N ct 1 σ 0 2 o_1fl (lkf σ) (by omega) (by omega) o_1G o_1H (by omega) o_1hl o_1lw o_1G.wok) (lk_RX7_191 E.1.2.2.2.2 ⟨Nat.le_of_ble_eq_true rfl, Nat.le_of_ble_eq_true rfl⟩) (fpreV E hP hS fc1 o_1h0 (by omega)) rfl rfl hl.1 rfl (lv_room (Nat.le_of_ble_eq_true rfl)) dX7_count_104 ⟨Nat.zero_le _, Nat.zero_le _⟩) hS (fun r_104 locs p_104 hS => ?_)
    rcases p_104 with ⟨rfl, hfb⟩ | ⟨i1, hi1, hi2, rfl, hi3, -⟩
    · refine lv_bipush (v := (-6)) hx hb dX7_count_107 (by decide) ?_
      refine lv_icmp_ne (tgt := 116) hx hb dX7_count_109 (by decide) (fun c_109 => ?_) (fun c_109 => ?_)
      · refine lv_iconst (v := (nI 0)) hx hb dX7_count_116 (by decide) ?_
        refine fs_iret E hr hlk hP hS dX7_count_117 ?_
        refine ⟨?_, hO, fSame.rf⟩
        rw [ctF, if_neg k_1_0, if_neg k_1_1, if_neg k_1_2, if_neg k_1_3, if_pos k_1_4]
        exact absurd rfl c_109
      · refine lv_iconst (v := (nI 1)) hx hb dX7_count_112 (by decide) ?_
        refine lv_goto (tgt := 117) hx hb dX7_count_113 (by decide) ?_
        refine fs_iret E hr hlk hP hS dX7_count_117 ?_
        refine ⟨?_, hO, fSame.rf⟩
        rw [ctF, if_neg k_1_0, if_neg k_1_1, if_neg k_1_2, if_neg k_1_3, if_pos k_1_4]
        exact bI_t (fun i hi => hfb i (by omega) hi)
    · refine lv_bipush (v := (-6)) hx hb dX7_count_107 (by decide) ?_
      refine lv_icmp_ne (tgt := 116) hx hb dX7_count_109 (by decide) (fun c_109 => ?_) (fun c_109 => ?_)
      · refine lv_iconst (v := (nI 0)) hx hb dX7_count_116 (by decide) ?_
        refine fs_iret E hr hlk hP hS dX7_count_117 ?_
        refine ⟨?_, hO, fSame.rf⟩
        rw [ctF, if_neg k_1_0, if_neg k_1_1, if_neg k_1_2, if_neg k_1_3, if_pos k_1_4]
        exact bI_f (fun z => by rw [z i1 hi2] at hi3; cases hi3)
      · refine lv_iconst (v := (nI 1)) hx hb dX7_count_112 (by decide) ?_
        refine lv_goto (tgt := 117) hx hb dX7_count_113 (by decide) ?_
        refine fs_iret E hr hlk hP hS dX7_count_117 ?_
        refine ⟨?_, hO, fSame.rf⟩
        rw [ctF, if_neg k_1_0, if_neg k_1_1, if_neg k_1_2, if_neg k_1_3, if_pos k_1_4]
        exact absurd c_109 (nI_ne6 (by omega))
  rcases Decidable.em (y = nI 5) with k_1_5 | k_1_5
  · refine fs_vi k_1_5 ?_
    refine lv_tableIn (off := 117) (tgt := 118) hx hb dX7_count_1 (by decide) (by decide) rfl (by decide) ?_
    refine lv_aload_n hx hb dX7_count_118 rfl (lv_at hl 0 rfl) ?_
    refine fs_get E hP (k := 0) (v := .ref (fa g 1)) 0 fc7 o_1x (by omega) (by decide) (wm wl_1 (i := 13) rfl) rfl dX7_count_119 ?_
    refine fs_getN E hP (k := 1) (v := .int (σ 2)) 1 fc1 o_1h0 (by omega) (by decide) (j := 9) rfl rfl dX7_count_122 ?_
    refine fs_iret E hr hlk hP hS dX7_count_125 ?_
    refine ⟨?_, hO, fSame.rf⟩
    rw [ctF, if_neg k_1_0, if_neg k_1_1, if_neg k_1_2, if_neg k_1_3, if_neg k_1_4, if_pos k_1_5]
  rcases Decidable.em (y = nI 6) with k_1_6 | k_1_6
  · refine fs_vi k_1_6 ?_
    refine lv_tableIn (off := 125) (tgt := 126) hx hb dX7_count_1 (by decide) (by decide) rfl (by decide) ?_
    refine lv_aload_n hx hb dX7_count_126 rfl (lv_at hl 0 rfl) ?_
    refine fs_r (va_runV (As := []) (rest := []) E.1 (c_X7_surveyNow l g N ct σ k hs u1 s1 u2 s2 t len (by omega) hO) (lk_RX7_131 E.1.2.2.2.2 ⟨Nat.le_of_ble_eq_true rfl, Nat.le_of_ble_eq_true rfl⟩) (fpreV E hP hS fc7 o_1x (by omega)) rfl rfl hl.1 rfl (lv_room (Nat.le_of_ble_eq_true rfl)) dX7_count_127 ⟨Nat.zero_le _, Nat.zero_le _⟩) hS (fun r_127 ct_4 H locs p_127 hP hS => ?_)
    refine fs_vv (y := .ref (fa g 232)) p_127.1 ?_
    obtain ⟨o_5x, o_5H, o_5G, o_5Y, o_51, o_52, o_5P, o_5V⟩ := id (p_127.2.1)
    have o_5n3 := o_5G.n3
    have o_5n6 := o_5G.n6
    have o_5k := o_5G.k
    obtain ⟨o_5h0, ⟨o_5fl, o_5hl, o_5lw⟩, ⟨o_5fs, o_5hs, o_5sw⟩, ⟨o_5fg, o_5hg, o_5gw⟩, ⟨o_5fr, o_5hr, o_5rw⟩, o_5ru⟩ := id o_5H
    obtain ⟨o_5n, o_5nl, o_5y0, o_5k6, -, -, -⟩ := id o_5Y
    obtain ⟨⟨o_5mp, o_5mw, o_5v0⟩, ⟨o_5fv, o_5v3, o_5vw⟩, ⟨o_5fo, o_5v4, o_5ow⟩, ⟨o_5fb, o_5v5, o_5bw⟩⟩ := id (p_127.2.2.1)
    have o_5p0 := o_5P.1
    have o_5p60 := o_5P.2.2.1
    have o_5a0 := o_51.1
    have o_5b0 := o_52.1
    refine lv_aload_n hx hb dX7_count_130 rfl (lv_at hl 0 rfl) ?_
    refine fs_get E hP (k := 0) (v := .ref (fa g 1)) 0 fc7 o_5x (by omega) (by decide) (wm wl_1 (i := 13) rfl) rfl dX7_count_131 ?_
    refine fs_getN E hP (k := 1) (v := .int (nI (nB σ))) 0 fc1 o_5h0 (by omega) (by decide) (j := 8) rfl rfl dX7_count_134 ?_
    refine fs_pi (va_runV (As := [.int (nI (nB σ))]) (rest := []) E.1 (c_X5_certainPersons l g N ct_4 232 σ (by omega) o_5G p_127.2.2.1) (lk_RX7_195 E.1.2.2.2.2 ⟨Nat.le_of_ble_eq_true rfl, Nat.le_of_ble_eq_true rfl⟩) (fpreV E hP hS fc5 o_5v0 (by omega)) rfl rfl hl.1 rfl (lv_room (Nat.le_of_ble_eq_true rfl)) dX7_count_137 ⟨Nat.zero_le _, Nat.zero_le _⟩) hS (fun r_137 locs p_137 hS => ?_)
    refine fs_vi (y := (nI (cN (fun p => decide (¬ crF σ p = -6)) (nB σ)))) p_137 ?_
    refine fs_iret E hr hlk hP hS dX7_count_140 ?_
    refine ⟨?_, (OGx.at1 p_127.2.1 p_127.2.2.1), (show fSame 0 239 _ _ from (fSame.tr2 fSame.rf p_127.2.2.2 (by omega) (by omega)))⟩
    rw [ctF, if_neg k_1_0, if_neg k_1_1, if_neg k_1_2, if_neg k_1_3, if_neg k_1_4, if_neg k_1_5, if_pos k_1_6]
  rcases Decidable.em (y = nI 7) with k_1_7 | k_1_7
  · refine fs_vi k_1_7 ?_
    refine lv_tableIn (off := 140) (tgt := 141) hx hb dX7_count_1 (by decide) (by decide) rfl (by decide) ?_
    refine lv_aload_n hx hb dX7_count_141 rfl (lv_at hl 0 rfl) ?_
    refine fs_r (va_runV (As := []) (rest := []) E.1 (c_X7_surveyNow l g N ct σ k hs u1 s1 u2 s2 t len (by omega) hO) (lk_RX7_131 E.1.2.2.2.2 ⟨Nat.le_of_ble_eq_true rfl, Nat.le_of_ble_eq_true rfl⟩) (fpreV E hP hS fc7 o_1x (by omega)) rfl rfl hl.1 rfl (lv_room (Nat.le_of_ble_eq_true rfl)) dX7_count_142 ⟨Nat.zero_le _, Nat.zero_le _⟩) hS (fun r_142 ct_6 H locs p_142 hP hS => ?_)
    refine fs_vv (y := .ref (fa g 232)) p_142.1 ?_
    obtain ⟨o_7x, o_7H, o_7G, o_7Y, o_71, o_72, o_7P, o_7V⟩ := id (p_142.2.1)
    have o_7n3 := o_7G.n3
    have o_7n6 := o_7G.n6
    have o_7k := o_7G.k
    obtain ⟨o_7h0, ⟨o_7fl, o_7hl, o_7lw⟩, ⟨o_7fs, o_7hs, o_7sw⟩, ⟨o_7fg, o_7hg, o_7gw⟩, ⟨o_7fr, o_7hr, o_7rw⟩, o_7ru⟩ := id o_7H
    obtain ⟨o_7n, o_7nl, o_7y0, o_7k6, -, -, -⟩ := id o_7Y
    obtain ⟨⟨o_7mp, o_7mw, o_7v0⟩, ⟨o_7fv, o_7v3, o_7vw⟩, ⟨o_7fo, o_7v4, o_7ow⟩, ⟨o_7fb, o_7v5, o_7bw⟩⟩ := id (p_142.2.2.1)
    have o_7p0 := o_7P.1
    have o_7p60 := o_7P.2.2.1
    have o_7a0 := o_71.1
    have o_7b0 := o_72.1
    refine lv_aload_n hx hb dX7_count_145 rfl (lv_at hl 0 rfl) ?_
    refine fs_get E hP (k := 0) (v := .ref (fa g 1)) 0 fc7 o_7x (by omega) (by decide) (wm wl_1 (i := 13) rfl) rfl dX7_count_146 ?_
    refine fs_pi (va_runV (As := [.ref (fa g 1)]) (rest := []) E.1 (c_X5_openCertain l g N ct_6 232 σ 1 (by omega) o_7H (by omega) o_7G p_142.2.2.1) (lk_RX7_198 E.1.2.2.2.2 ⟨Nat.le_of_ble_eq_true rfl, Nat.le_of_ble_eq_true rfl⟩) (fpreV E hP hS fc5 o_7v0 (by omega)) rfl rfl hl.1 rfl (lv_room (Nat.le_of_ble_eq_true rfl)) dX7_count_149 ⟨Nat.zero_le _, Nat.zero_le _⟩) hS (fun r_149 locs p_149 hS => ?_)
    refine fs_vi (y := (nI (cN (fun r => opn σ r && decide (0 < Wn σ ∧ HDn σ r = Wn σ)) (nT σ)))) p_149 ?_
    refine fs_iret E hr hlk hP hS dX7_count_152 ?_
    refine ⟨?_, (OGx.at1 p_142.2.1 p_142.2.2.1), (show fSame 0 239 _ _ from (fSame.tr2 fSame.rf p_142.2.2.2 (by omega) (by omega)))⟩
    rw [ctF, if_neg k_1_0, if_neg k_1_1, if_neg k_1_2, if_neg k_1_3, if_neg k_1_4, if_neg k_1_5, if_neg k_1_6, if_pos k_1_7]
  rcases Decidable.em (y = nI 8) with k_1_8 | k_1_8
  · refine fs_vi k_1_8 ?_
    refine lv_tableIn (off := 152) (tgt := 153) hx hb dX7_count_1 (by decide) (by decide) rfl (by decide) ?_
    refine lv_aload_n hx hb dX7_count_153 rfl (lv_at hl 0 rfl) ?_
    refine fs_r (va_runV (As := []) (rest := []) E.1 (c_X7_surveyNow l g N ct σ k hs u1 s1 u2 s2 t len (by omega) hO) (lk_RX7_131 E.1.2.2.2.2 ⟨Nat.le_of_ble_eq_true rfl, Nat.le_of_ble_eq_true rfl⟩) (fpreV E hP hS fc7 o_1x (by omega)) rfl rfl hl.1 rfl (lv_room (Nat.le_of_ble_eq_true rfl)) dX7_count_154 ⟨Nat.zero_le _, Nat.zero_le _⟩) hS (fun r_154 ct_8 H locs p_154 hP hS => ?_)
    refine fs_vv (y := .ref (fa g 232)) p_154.1 ?_
    obtain ⟨o_9x, o_9H, o_9G, o_9Y, o_91, o_92, o_9P, o_9V⟩ := id (p_154.2.1)
    have o_9n3 := o_9G.n3
    have o_9n6 := o_9G.n6
    have o_9k := o_9G.k
    obtain ⟨o_9h0, ⟨o_9fl, o_9hl, o_9lw⟩, ⟨o_9fs, o_9hs, o_9sw⟩, ⟨o_9fg, o_9hg, o_9gw⟩, ⟨o_9fr, o_9hr, o_9rw⟩, o_9ru⟩ := id o_9H
    obtain ⟨o_9n, o_9nl, o_9y0, o_9k6, -, -, -⟩ := id o_9Y
    obtain ⟨⟨o_9mp, o_9mw, o_9v0⟩, ⟨o_9fv, o_9v3, o_9vw⟩, ⟨o_9fo, o_9v4, o_9ow⟩, ⟨o_9fb, o_9v5, o_9bw⟩⟩ := id (p_154.2.2.1)
    have o_9p0 := o_9P.1
    have o_9p60 := o_9P.2.2.1
    have o_9a0 := o_91.1
    have o_9b0 := o_92.1
    refine lv_aload_n hx hb dX7_count_157 rfl (lv_at hl 0 rfl) ?_
    refine fs_get E hP (k := 0) (v := .ref (fa g 1)) 0 fc7 o_9x (by omega) (by decide) (wm wl_1 (i := 13) rfl) rfl dX7_count_158 ?_
    refine fs_pi (va_runV (As := [.ref (fa g 1)]) (rest := []) E.1 (c_X5_openRuledOut l g N ct_8 232 σ 1 (by omega) o_9H (by omega) o_9G p_154.2.2.1) (lk_RX7_202 E.1.2.2.2.2 ⟨Nat.le_of_ble_eq_true rfl, Nat.le_of_ble_eq_true rfl⟩) (fpreV E hP hS fc5 o_9v0 (by omega)) rfl rfl hl.1 rfl (lv_room (Nat.le_of_ble_eq_true rfl)) dX7_count_161 ⟨Nat.zero_le _, Nat.zero_le _⟩) hS (fun r_161 locs p_161 hS => ?_)
    refine fs_vi (y := (nI (cN (fun r => opn σ r && decide (0 < Wn σ ∧ HDn σ r = 0)) (nT σ)))) p_161 ?_
    refine fs_iret E hr hlk hP hS dX7_count_164 ?_
    refine ⟨?_, (OGx.at1 p_154.2.1 p_154.2.2.1), (show fSame 0 239 _ _ from (fSame.tr2 fSame.rf p_154.2.2.2 (by omega) (by omega)))⟩
    rw [ctF, if_neg k_1_0, if_neg k_1_1, if_neg k_1_2, if_neg k_1_3, if_neg k_1_4, if_neg k_1_5, if_neg k_1_6, if_neg k_1_7, if_pos k_1_8]
  rcases Decidable.em (y = nI 9) with k_1_9 | k_1_9
  · refine fs_vi k_1_9 ?_
    refine lv_tableIn (off := 164) (tgt := 165) hx hb dX7_count_1 (by decide) (by decide) rfl (by decide) ?_
    refine lv_aload_n hx hb dX7_count_165 rfl (lv_at hl 0 rfl) ?_
    refine fs_get E hP (k := 0) (v := .ref (fa g 230)) 4 fc7 o_1x (by omega) (by decide) (wm wl_2 (i := 2) rfl) rfl dX7_count_166 ?_
    refine fs_getN E hP (k := 230) (v := .int (nI len)) 1 fc2 o_1p0 (by omega) (by decide) (j := 16) rfl rfl dX7_count_169 ?_
    refine fs_iret E hr hlk hP hS dX7_count_172 ?_
    refine ⟨?_, hO, fSame.rf⟩
    rw [ctF, if_neg k_1_0, if_neg k_1_1, if_neg k_1_2, if_neg k_1_3, if_neg k_1_4, if_neg k_1_5, if_neg k_1_6, if_neg k_1_7, if_neg k_1_8, if_pos k_1_9]
  rcases Decidable.em (y = nI 10) with k_1_10 | k_1_10
  · refine fs_vi k_1_10 ?_
    refine lv_tableIn (off := 172) (tgt := 173) hx hb dX7_count_1 (by decide) (by decide) rfl (by decide) ?_
    refine lv_aload_n hx hb dX7_count_173 rfl (lv_at hl 0 rfl) ?_
    refine fs_get E hP (k := 0) (v := .ref (fa g 26)) 1 fc7 o_1x (by omega) (by decide) (wm wl_1 (i := 17) rfl) rfl dX7_count_174 ?_
    refine fs_getN E hP (k := 26) (v := .int (nI k)) 1 fc0 o_1y0 (by omega) (by decide) (j := 15) rfl rfl dX7_count_177 ?_
    refine fs_iret E hr hlk hP hS dX7_count_180 ?_
    refine ⟨?_, hO, fSame.rf⟩
    rw [ctF, if_neg k_1_0, if_neg k_1_1, if_neg k_1_2, if_neg k_1_3, if_neg k_1_4, if_neg k_1_5, if_neg k_1_6, if_neg k_1_7, if_neg k_1_8, if_neg k_1_9, if_pos k_1_10]
  refine lv_tableOut (tgt := 181) hx hb dX7_count_1 (ftab_0_10 k_1_0 k_1_1 k_1_2 k_1_3 k_1_4 k_1_5 k_1_6 k_1_7 k_1_8 k_1_9 k_1_10) (by decide) ?_
  refine lv_bipush (v := (-2)) hx hb dX7_count_181 (by decide) ?_
  refine fs_iret E hr hlk hP hS dX7_count_183 ?_
  refine ⟨?_, hO, fSame.rf⟩
  rw [ctF, if_neg k_1_0, if_neg k_1_1, if_neg k_1_2, if_neg k_1_3, if_neg k_1_4, if_neg k_1_5, if_neg k_1_6, if_neg k_1_7, if_neg k_1_8, if_neg k_1_9, if_neg k_1_10]

set_option maxRecDepth 100000 in
set_option maxHeartbeats 4000000 in
theorem c_X7_possible (l : Launch) (g : fG) (N : Nat) (ct : Nat → va_E) (σ : Nat → Int32) (k : Nat) (hs : Nat → Nat → Int32) (u1 : Bool) (s1 : Nat → Int32) (u2 : Bool) (s2 : Nat → Int32) (t : Nat → Nat) (len : Nat) (hN : 239 ≤ N) (hO : OGAt g ct σ k hs u1 s1 u2 s2 t len) (x y : Int32) : Met l yX7_possible (wsU yX7_possible cX7_possible 3 (some .int)) rX7_possible (fPre g N ct [.ref (fa g 0), .int x, .int y]) (fQi g N (fun r ct1 => r = (if hbx σ x ∧ hbx σ y then nI (LKn σ x.toNatClampNeg y.toNatClampNeg) else -1) ∧ OGAt g ct1 σ k hs u1 s1 u2 s2 t len ∧ fSame 0 239 ct ct1)) 0 0 (fB g) := by
  refine fs_start (own := RX7) (lv0 := [(0, .ref (fa g 0)), (1, .int x), (2, .int y)]) (by decide) rfl (Nat.le_of_ble_eq_true rfl) rfl ?_
  intro p e s m args below meth c ls E hr hlk hnm hP hl hS
  have hx := E.1.1
  have hb := E.1.2.1
  obtain ⟨sv, hO1, hsv⟩ := id hO
  obtain ⟨o_1x, o_1H, o_1G, o_1Y, o_11, o_12, o_1P, o_1V⟩ := id (hO1)
  have o_1n3 := o_1G.n3
  have o_1n6 := o_1G.n6
  have o_1k := o_1G.k
  obtain ⟨o_1h0, ⟨o_1fl, o_1hl, o_1lw⟩, ⟨o_1fs, o_1hs, o_1sw⟩, ⟨o_1fg, o_1hg, o_1gw⟩, ⟨o_1fr, o_1hr, o_1rw⟩, o_1ru⟩ := id o_1H
  obtain ⟨o_1n, o_1nl, o_1y0, o_1k6, -, -, -⟩ := id o_1Y
  obtain ⟨⟨o_1ws, o_1mp, o_1mw, o_1v0⟩, -⟩ := id o_1V
  have o_1p0 := o_1P.1
  have o_1p60 := o_1P.2.2.1
  have o_1a0 := o_11.1
  have o_1b0 := o_12.1
  refine lv_aload_n hx hb dX7_possible_0 rfl (lv_at hl 0 rfl) ?_
  refine fs_get E hP (k := 0) (v := .ref (fa g 1)) 0 fc7 o_1x (by omega) (by decide) (wm wl_1 (i := 13) rfl) rfl dX7_possible_1 ?_
  refine lv_iload_n hx hb dX7_possible_4 rfl (lv_at hl 1 rfl) ?_
  refine fs_pi (va_runV (As := [.int x]) (rest := []) E.1 (c_X1_hasBox l g N ct 1 (nB σ) (nT σ) (σ 2) 2 3 4 5 (by omega) o_1h0 x (by omega)) (lk_RX7_58 E.1.2.2.2.2 ⟨Nat.le_of_ble_eq_true rfl, Nat.le_of_ble_eq_true rfl⟩) (fpreV E hP hS fc1 o_1h0 (by omega)) rfl rfl hl.1 rfl (lv_room (Nat.le_of_ble_eq_true rfl)) dX7_possible_5 ⟨Nat.zero_le _, Nat.zero_le _⟩) hS (fun r_5 locs p_5 hS => ?_)
  refine lv_if_eq (tgt := 22) hx hb dX7_possible_8 (by decide) (fun c_8 => ?_) (fun c_8 => ?_)
  · have c_8 := (fb_0 p_5).mp c_8
    refine lv_iconst (v := (-1)) hx hb dX7_possible_22 (by decide) ?_
    refine fs_iret E hr hlk hP hS dX7_possible_23 ?_
    refine ⟨?_, hO, fSame.rf⟩
    rw [if_neg (fun z => by omega)]
  · have c_8 := (fb_1 p_5).mp c_8
    refine lv_aload_n hx hb dX7_possible_11 rfl (lv_at hl 0 rfl) ?_
    refine fs_get E hP (k := 0) (v := .ref (fa g 1)) 0 fc7 o_1x (by omega) (by decide) (wm wl_1 (i := 13) rfl) rfl dX7_possible_12 ?_
    refine lv_iload_n hx hb dX7_possible_15 rfl (lv_at hl 2 rfl) ?_
    refine fs_pi (va_runV (As := [.int y]) (rest := []) E.1 (c_X1_hasBox l g N ct 1 (nB σ) (nT σ) (σ 2) 2 3 4 5 (by omega) o_1h0 y (by omega)) (lk_RX7_58 E.1.2.2.2.2 ⟨Nat.le_of_ble_eq_true rfl, Nat.le_of_ble_eq_true rfl⟩) (fpreV E hP hS fc1 o_1h0 (by omega)) rfl rfl hl.1 rfl (lv_room (Nat.le_of_ble_eq_true rfl)) dX7_possible_16 ⟨Nat.zero_le _, Nat.zero_le _⟩) hS (fun r_16 locs p_16 hS => ?_)
    refine lv_if_ne (tgt := 24) hx hb dX7_possible_19 (by decide) (fun c_19 => ?_) (fun c_19 => ?_)
    · have c_19 := (fb_1 p_16).mp c_19
      obtain ⟨p0, hp0, rfl⟩ := fex c_8.1 c_8.2
      obtain ⟨q0, hq0, rfl⟩ := fex c_19.1 c_19.2
      refine lv_aload_n hx hb dX7_possible_24 rfl (lv_at hl 0 rfl) ?_
      refine fs_r (va_runV (As := []) (rest := []) E.1 (c_X7_surveyNow l g N ct σ k hs u1 s1 u2 s2 t len (by omega) hO) (lk_RX7_131 E.1.2.2.2.2 ⟨Nat.le_of_ble_eq_true rfl, Nat.le_of_ble_eq_true rfl⟩) (fpreV E hP hS fc7 o_1x (by omega)) rfl rfl hl.1 rfl (lv_room (Nat.le_of_ble_eq_true rfl)) dX7_possible_25 ⟨Nat.zero_le _, Nat.zero_le _⟩) hS (fun r_25 ct_2 H locs p_25 hP hS => ?_)
      refine fs_vv (y := .ref (fa g 232)) p_25.1 ?_
      obtain ⟨o_3x, o_3H, o_3G, o_3Y, o_31, o_32, o_3P, o_3V⟩ := id (p_25.2.1)
      have o_3n3 := o_3G.n3
      have o_3n6 := o_3G.n6
      have o_3k := o_3G.k
      obtain ⟨o_3h0, ⟨o_3fl, o_3hl, o_3lw⟩, ⟨o_3fs, o_3hs, o_3sw⟩, ⟨o_3fg, o_3hg, o_3gw⟩, ⟨o_3fr, o_3hr, o_3rw⟩, o_3ru⟩ := id o_3H
      obtain ⟨o_3n, o_3nl, o_3y0, o_3k6, -, -, -⟩ := id o_3Y
      obtain ⟨⟨o_3mp, o_3mw, o_3v0⟩, ⟨o_3fv, o_3v3, o_3vw⟩, ⟨o_3fo, o_3v4, o_3ow⟩, ⟨o_3fb, o_3v5, o_3bw⟩⟩ := id (p_25.2.2.1)
      have o_3p0 := o_3P.1
      have o_3p60 := o_3P.2.2.1
      have o_3a0 := o_31.1
      have o_3b0 := o_32.1
      refine lv_iload_n hx hb dX7_possible_28 rfl (lv_at hl 1 rfl) ?_
      refine lv_iload_n hx hb dX7_possible_29 rfl (lv_at hl 2 rfl) ?_
      refine fs_pi (va_runV (As := [.int (nI p0), .int (nI q0)]) (rest := []) E.1 (c_X5_lookingAt l g N ct_2 232 σ p0 q0 (by omega) (by omega) (by omega) o_3G p_25.2.2.1) (lk_RX7_211 E.1.2.2.2.2 ⟨Nat.le_of_ble_eq_true rfl, Nat.le_of_ble_eq_true rfl⟩) (fpreV E hP hS fc5 o_3v0 (by omega)) rfl rfl hl.1 rfl (lv_room (Nat.le_of_ble_eq_true rfl)) dX7_possible_30 ⟨Nat.zero_le _, Nat.zero_le _⟩) hS (fun r_30 locs p_30 hS => ?_)
      refine fs_vi (y := (nI (LKn σ p0 q0))) p_30 ?_
      refine fs_iret E hr hlk hP hS dX7_possible_33 ?_
      rw [nI_cl (show p0 < 1000000 by omega)]
      rw [nI_cl (show q0 < 1000000 by omega)]
      refine ⟨?_, (OGx.at1 p_25.2.1 p_25.2.2.1), (show fSame 0 239 _ _ from (fSame.tr2 fSame.rf p_25.2.2.2 (by omega) (by omega)))⟩
      rw [if_pos ⟨c_8, c_19⟩]
    · have c_19 := (fb_0 p_16).mp c_19
      refine lv_iconst (v := (-1)) hx hb dX7_possible_22 (by decide) ?_
      refine fs_iret E hr hlk hP hS dX7_possible_23 ?_
      refine ⟨?_, hO, fSame.rf⟩
      rw [if_neg (fun z => by omega)]

set_option maxRecDepth 100000 in
set_option maxHeartbeats 4000000 in
theorem c_X7_certain (l : Launch) (g : fG) (N : Nat) (ct : Nat → va_E) (σ : Nat → Int32) (k : Nat) (hs : Nat → Nat → Int32) (u1 : Bool) (s1 : Nat → Int32) (u2 : Bool) (s2 : Nat → Int32) (t : Nat → Nat) (len : Nat) (hN : 239 ≤ N) (hO : OGAt g ct σ k hs u1 s1 u2 s2 t len) (x : Int32) : Met l yX7_certain (wsU yX7_certain cX7_certain 2 (some .int)) rX7_certain (fPre g N ct [.ref (fa g 0), .int x]) (fQi g N (fun r ct1 => r = (if hbx σ x then crF σ x.toNatClampNeg else -1) ∧ OGAt g ct1 σ k hs u1 s1 u2 s2 t len ∧ fSame 0 239 ct ct1)) 0 0 (fB g) := by
  refine fs_start (own := RX7) (lv0 := [(0, .ref (fa g 0)), (1, .int x)]) (by decide) rfl (Nat.le_of_ble_eq_true rfl) rfl ?_
  intro p e s m args below meth c ls E hr hlk hnm hP hl hS
  have hx := E.1.1
  have hb := E.1.2.1
  obtain ⟨sv, hO1, hsv⟩ := id hO
  obtain ⟨o_1x, o_1H, o_1G, o_1Y, o_11, o_12, o_1P, o_1V⟩ := id (hO1)
  have o_1n3 := o_1G.n3
  have o_1n6 := o_1G.n6
  have o_1k := o_1G.k
  obtain ⟨o_1h0, ⟨o_1fl, o_1hl, o_1lw⟩, ⟨o_1fs, o_1hs, o_1sw⟩, ⟨o_1fg, o_1hg, o_1gw⟩, ⟨o_1fr, o_1hr, o_1rw⟩, o_1ru⟩ := id o_1H
  obtain ⟨o_1n, o_1nl, o_1y0, o_1k6, -, -, -⟩ := id o_1Y
  obtain ⟨⟨o_1ws, o_1mp, o_1mw, o_1v0⟩, -⟩ := id o_1V
  have o_1p0 := o_1P.1
  have o_1p60 := o_1P.2.2.1
  have o_1a0 := o_11.1
  have o_1b0 := o_12.1
  refine lv_aload_n hx hb dX7_certain_0 rfl (lv_at hl 0 rfl) ?_
  refine fs_get E hP (k := 0) (v := .ref (fa g 1)) 0 fc7 o_1x (by omega) (by decide) (wm wl_1 (i := 13) rfl) rfl dX7_certain_1 ?_
  refine lv_iload_n hx hb dX7_certain_4 rfl (lv_at hl 1 rfl) ?_
  refine fs_pi (va_runV (As := [.int x]) (rest := []) E.1 (c_X1_hasBox l g N ct 1 (nB σ) (nT σ) (σ 2) 2 3 4 5 (by omega) o_1h0 x (by omega)) (lk_RX7_58 E.1.2.2.2.2 ⟨Nat.le_of_ble_eq_true rfl, Nat.le_of_ble_eq_true rfl⟩) (fpreV E hP hS fc1 o_1h0 (by omega)) rfl rfl hl.1 rfl (lv_room (Nat.le_of_ble_eq_true rfl)) dX7_certain_5 ⟨Nat.zero_le _, Nat.zero_le _⟩) hS (fun r_5 locs p_5 hS => ?_)
  refine lv_if_ne (tgt := 13) hx hb dX7_certain_8 (by decide) (fun c_8 => ?_) (fun c_8 => ?_)
  · have c_8 := (fb_1 p_5).mp c_8
    obtain ⟨p0, hp0, rfl⟩ := fex c_8.1 c_8.2
    refine lv_aload_n hx hb dX7_certain_13 rfl (lv_at hl 0 rfl) ?_
    refine fs_r (va_runV (As := []) (rest := []) E.1 (c_X7_surveyNow l g N ct σ k hs u1 s1 u2 s2 t len (by omega) hO) (lk_RX7_131 E.1.2.2.2.2 ⟨Nat.le_of_ble_eq_true rfl, Nat.le_of_ble_eq_true rfl⟩) (fpreV E hP hS fc7 o_1x (by omega)) rfl rfl hl.1 rfl (lv_room (Nat.le_of_ble_eq_true rfl)) dX7_certain_14 ⟨Nat.zero_le _, Nat.zero_le _⟩) hS (fun r_14 ct_2 H locs p_14 hP hS => ?_)
    refine fs_vv (y := .ref (fa g 232)) p_14.1 ?_
    obtain ⟨o_3x, o_3H, o_3G, o_3Y, o_31, o_32, o_3P, o_3V⟩ := id (p_14.2.1)
    have o_3n3 := o_3G.n3
    have o_3n6 := o_3G.n6
    have o_3k := o_3G.k
    obtain ⟨o_3h0, ⟨o_3fl, o_3hl, o_3lw⟩, ⟨o_3fs, o_3hs, o_3sw⟩, ⟨o_3fg, o_3hg, o_3gw⟩, ⟨o_3fr, o_3hr, o_3rw⟩, o_3ru⟩ := id o_3H
    obtain ⟨o_3n, o_3nl, o_3y0, o_3k6, -, -, -⟩ := id o_3Y
    obtain ⟨⟨o_3mp, o_3mw, o_3v0⟩, ⟨o_3fv, o_3v3, o_3vw⟩, ⟨o_3fo, o_3v4, o_3ow⟩, ⟨o_3fb, o_3v5, o_3bw⟩⟩ := id (p_14.2.2.1)
    have o_3p0 := o_3P.1
    have o_3p60 := o_3P.2.2.1
    have o_3a0 := o_31.1
    have o_3b0 := o_32.1
    refine lv_iload_n hx hb dX7_certain_17 rfl (lv_at hl 1 rfl) ?_
    refine fs_pi (va_runV (As := [.int (nI p0)]) (rest := []) E.1 (c_X5_certainBox l g N ct_2 232 σ p0 hp0 (by omega) o_3G p_14.2.2.1) (lk_RX7_215 E.1.2.2.2.2 ⟨Nat.le_of_ble_eq_true rfl, Nat.le_of_ble_eq_true rfl⟩) (fpreV E hP hS fc5 o_3v0 (by omega)) rfl rfl hl.1 rfl (lv_room (Nat.le_of_ble_eq_true rfl)) dX7_certain_18 ⟨Nat.zero_le _, Nat.zero_le _⟩) hS (fun r_18 locs p_18 hS => ?_)
    refine fs_vi (y := (crF σ p0)) p_18 ?_
    refine fs_iret E hr hlk hP hS dX7_certain_21 ?_
    rw [nI_cl (show p0 < 1000000 by omega)]
    refine ⟨?_, (OGx.at1 p_14.2.1 p_14.2.2.1), (show fSame 0 239 _ _ from (fSame.tr2 fSame.rf p_14.2.2.2 (by omega) (by omega)))⟩
    rw [if_pos c_8]
  · have c_8 := (fb_0 p_5).mp c_8
    refine lv_iconst (v := (-1)) hx hb dX7_certain_11 (by decide) ?_
    refine fs_iret E hr hlk hP hS dX7_certain_12 ?_
    refine ⟨?_, hO, fSame.rf⟩
    rw [if_neg c_8]

set_option maxRecDepth 100000 in
set_option maxHeartbeats 4000000 in
theorem c_X7_world (l : Launch) (g : fG) (N : Nat) (ct : Nat → va_E) (σ : Nat → Int32) (k : Nat) (hs : Nat → Nat → Int32) (u1 : Bool) (s1 : Nat → Int32) (u2 : Bool) (s2 : Nat → Int32) (t : Nat → Nat) (len : Nat) (hN : 239 ≤ N) (hO : OGAt g ct σ k hs u1 s1 u2 s2 t len) (x y : Int32) : Met l yX7_world (wsU yX7_world cX7_world 3 (some .int)) rX7_world (fPre g N ct [.ref (fa g 0), .int x, .int y]) (fQi g N (fun r ct1 => r = (if hbx σ y then wlF σ x y.toNatClampNeg (mM σ) else -1) ∧ OGAt g ct1 σ k hs u1 s1 u2 s2 t len ∧ fSame 0 239 ct ct1)) 0 0 (fB g) := by
  refine fs_start (own := RX7) (lv0 := [(0, .ref (fa g 0)), (1, .int x), (2, .int y)]) (by decide) rfl (Nat.le_of_ble_eq_true rfl) rfl ?_
  intro p e s m args below meth c ls E hr hlk hnm hP hl hS
  have hx := E.1.1
  have hb := E.1.2.1
  obtain ⟨sv, hO1, hsv⟩ := id hO
  obtain ⟨o_1x, o_1H, o_1G, o_1Y, o_11, o_12, o_1P, o_1V⟩ := id (hO1)
  have o_1n3 := o_1G.n3
  have o_1n6 := o_1G.n6
  have o_1k := o_1G.k
  obtain ⟨o_1h0, ⟨o_1fl, o_1hl, o_1lw⟩, ⟨o_1fs, o_1hs, o_1sw⟩, ⟨o_1fg, o_1hg, o_1gw⟩, ⟨o_1fr, o_1hr, o_1rw⟩, o_1ru⟩ := id o_1H
  obtain ⟨o_1n, o_1nl, o_1y0, o_1k6, -, -, -⟩ := id o_1Y
  obtain ⟨⟨o_1ws, o_1mp, o_1mw, o_1v0⟩, -⟩ := id o_1V
  have o_1p0 := o_1P.1
  have o_1p60 := o_1P.2.2.1
  have o_1a0 := o_11.1
  have o_1b0 := o_12.1
  refine lv_aload_n hx hb dX7_world_0 rfl (lv_at hl 0 rfl) ?_
  refine fs_get E hP (k := 0) (v := .ref (fa g 1)) 0 fc7 o_1x (by omega) (by decide) (wm wl_1 (i := 13) rfl) rfl dX7_world_1 ?_
  refine lv_iload_n hx hb dX7_world_4 rfl (lv_at hl 2 rfl) ?_
  refine fs_pi (va_runV (As := [.int y]) (rest := []) E.1 (c_X1_hasBox l g N ct 1 (nB σ) (nT σ) (σ 2) 2 3 4 5 (by omega) o_1h0 y (by omega)) (lk_RX7_58 E.1.2.2.2.2 ⟨Nat.le_of_ble_eq_true rfl, Nat.le_of_ble_eq_true rfl⟩) (fpreV E hP hS fc1 o_1h0 (by omega)) rfl rfl hl.1 rfl (lv_room (Nat.le_of_ble_eq_true rfl)) dX7_world_5 ⟨Nat.zero_le _, Nat.zero_le _⟩) hS (fun r_5 locs p_5 hS => ?_)
  refine lv_if_ne (tgt := 13) hx hb dX7_world_8 (by decide) (fun c_8 => ?_) (fun c_8 => ?_)
  · have c_8 := (fb_1 p_5).mp c_8
    obtain ⟨p0, hp0, rfl⟩ := fex c_8.1 c_8.2
    refine lv_aload_n hx hb dX7_world_13 rfl (lv_at hl 0 rfl) ?_
    refine fs_get E hP (k := 0) (v := .ref (fa g 232)) 5 fc7 o_1x (by omega) (by decide) (wm wl_2 (i := 6) rfl) rfl dX7_world_14 ?_
    refine lv_aload_n hx hb dX7_world_17 rfl (lv_at hl 0 rfl) ?_
    refine fs_get E hP (k := 0) (v := .ref (fa g 1)) 0 fc7 o_1x (by omega) (by decide) (wm wl_1 (i := 13) rfl) rfl dX7_world_18 ?_
    refine lv_iload_n hx hb dX7_world_21 rfl (lv_at hl 1 rfl) ?_
    refine lv_iload_n hx hb dX7_world_22 rfl (lv_at hl 2 rfl) ?_
    refine fs_i (va_runV (As := [.ref (fa g 1), .int x, .int (nI p0)]) (rest := []) E.1 (c_X5_boxInWorld l g N ct 232 1 σ (by omega) (by omega) (by omega) o_1G o_1H x p0 hp0 o_1V) (lk_RX7_218 E.1.2.2.2.2 ⟨Nat.le_of_ble_eq_true rfl, Nat.le_of_ble_eq_true rfl⟩) (fpreV E hP hS fc5 o_1v0 (by omega)) rfl rfl hl.1 rfl (lv_room (Nat.le_of_ble_eq_true rfl)) dX7_world_23 ⟨Nat.zero_le _, Nat.zero_le _⟩) hS (fun r_23 ct_2 H locs p_23 hP hS => ?_)
    refine fs_vi (y := (wlF σ x p0 (mM σ))) p_23.1 ?_
    have og9 := OGx.surv hO1 (SurvSh.upd o_1V (p_23.2.1) (SupSh.keep o_1V.2.2.2.2.2 (p_23.2.2.1 _ (by omega))) (fun j hj => p_23.2.2.1 j (by omega))) p_23.2.2.2
    refine fs_iret E hr hlk hP hS dX7_world_26 ?_
    rw [nI_cl (show p0 < 1000000 by omega)]
    refine ⟨?_, (OGx.atk og9 hsv (fun j hj => (fun j hj => p_23.2.2.1 j (by omega)) j (by omega))), (show fSame 0 239 _ _ from (fSame.tr2 fSame.rf p_23.2.2.2 (by omega) (by omega)))⟩
    rw [if_pos c_8]
  · have c_8 := (fb_0 p_5).mp c_8
    refine lv_iconst (v := (-1)) hx hb dX7_world_11 (by decide) ?_
    refine fs_iret E hr hlk hP hS dX7_world_12 ?_
    refine ⟨?_, hO, fSame.rf⟩
    rw [if_neg c_8]

set_option maxRecDepth 100000 in
set_option maxHeartbeats 4000000 in
theorem c_X7_ifProved (l : Launch) (g : fG) (N : Nat) (ct : Nat → va_E) (σ : Nat → Int32) (k : Nat) (hs : Nat → Nat → Int32) (u1 : Bool) (s1 : Nat → Int32) (u2 : Bool) (s2 : Nat → Int32) (t : Nat → Nat) (len : Nat) (hN : 239 ≤ N) (hO : OGAt g ct σ k hs u1 s1 u2 s2 t len) (x y z : Int32) : Met l yX7_ifProved (wsU yX7_ifProved cX7_ifProved 4 (some .int)) rX7_ifProved (fPre g N ct [.ref (fa g 0), .int x, .int y, .int z]) (fQi g N (fun r ct1 => r = (if sux (nB σ) x y z then nI (cN (pvn σ x.toNatClampNeg y.toNatClampNeg z.toNatClampNeg) (mM σ)) else -2) ∧ OGAt g ct1 σ k hs u1 s1 u2 s2 t len ∧ fSame 0 239 ct ct1)) 0 0 (fB g) := by
  refine fs_start (own := RX7) (lv0 := [(0, .ref (fa g 0)), (1, .int x), (2, .int y), (3, .int z)]) (by decide) rfl (Nat.le_of_ble_eq_true rfl) rfl ?_
  intro p e s m args below meth c ls E hr hlk hnm hP hl hS
  have hx := E.1.1
  have hb := E.1.2.1
  obtain ⟨sv, hO1, hsv⟩ := id hO
  obtain ⟨o_1x, o_1H, o_1G, o_1Y, o_11, o_12, o_1P, o_1V⟩ := id (hO1)
  have o_1n3 := o_1G.n3
  have o_1n6 := o_1G.n6
  have o_1k := o_1G.k
  obtain ⟨o_1h0, ⟨o_1fl, o_1hl, o_1lw⟩, ⟨o_1fs, o_1hs, o_1sw⟩, ⟨o_1fg, o_1hg, o_1gw⟩, ⟨o_1fr, o_1hr, o_1rw⟩, o_1ru⟩ := id o_1H
  obtain ⟨o_1n, o_1nl, o_1y0, o_1k6, -, -, -⟩ := id o_1Y
  obtain ⟨⟨o_1ws, o_1mp, o_1mw, o_1v0⟩, -⟩ := id o_1V
  have o_1p0 := o_1P.1
  have o_1p60 := o_1P.2.2.1
  have o_1a0 := o_11.1
  have o_1b0 := o_12.1
  refine lv_aload_n hx hb dX7_ifProved_0 rfl (lv_at hl 0 rfl) ?_
  refine fs_get E hP (k := 0) (v := .ref (fa g 1)) 0 fc7 o_1x (by omega) (by decide) (wm wl_1 (i := 13) rfl) rfl dX7_ifProved_1 ?_
  refine lv_iload_n hx hb dX7_ifProved_4 rfl (lv_at hl 1 rfl) ?_
  refine lv_iload_n hx hb dX7_ifProved_5 rfl (lv_at hl 2 rfl) ?_
  refine lv_iload_n hx hb dX7_ifProved_6 rfl (lv_at hl 3 rfl) ?_
  refine fs_pi (va_runV (As := [.int x, .int y, .int z]) (rest := []) E.1 (c_X1_suits l g N ct 1 (nB σ) (nT σ) (σ 2) 2 3 4 5 (by omega) o_1h0 x y z (by omega)) (lk_RX7_74 E.1.2.2.2.2 ⟨Nat.le_of_ble_eq_true rfl, Nat.le_of_ble_eq_true rfl⟩) (fpreV E hP hS fc1 o_1h0 (by omega)) rfl rfl hl.1 rfl (lv_room (Nat.le_of_ble_eq_true rfl)) dX7_ifProved_7 ⟨Nat.zero_le _, Nat.zero_le _⟩) hS (fun r_7 locs p_7 hS => ?_)
  refine lv_if_ne (tgt := 16) hx hb dX7_ifProved_10 (by decide) (fun c_10 => ?_) (fun c_10 => ?_)
  · have c_10 := (fb_1 p_7).mp c_10
    obtain ⟨kd, a0, b0, rfl, rfl, rfl, hok⟩ := sux_ok (by omega) c_10
    have hok1 := hok.1
    have hok2 := hok.2.1
    have hok3 : b0 ≤ 6 := by have := hok.2.2.1; have := hok.2.2.2; omega
    refine lv_aload_n hx hb dX7_ifProved_16 rfl (lv_at hl 0 rfl) ?_
    refine fs_get E hP (k := 0) (v := .ref (fa g 232)) 5 fc7 o_1x (by omega) (by decide) (wm wl_2 (i := 6) rfl) rfl dX7_ifProved_17 ?_
    refine lv_aload_n hx hb dX7_ifProved_20 rfl (lv_at hl 0 rfl) ?_
    refine fs_get E hP (k := 0) (v := .ref (fa g 1)) 0 fc7 o_1x (by omega) (by decide) (wm wl_1 (i := 13) rfl) rfl dX7_ifProved_21 ?_
    refine lv_iload_n hx hb dX7_ifProved_24 rfl (lv_at hl 1 rfl) ?_
    refine lv_iload_n hx hb dX7_ifProved_25 rfl (lv_at hl 2 rfl) ?_
    refine lv_iload_n hx hb dX7_ifProved_26 rfl (lv_at hl 3 rfl) ?_
    refine fs_i (va_runV (As := [.ref (fa g 1), .int (nI kd), .int (nI a0), .int (nI b0)]) (rest := []) E.1 (c_X5_worldsWith l g N ct 232 1 σ (by omega) (by omega) (by omega) o_1G o_1H kd a0 b0 hok o_1V) (lk_RX7_222 E.1.2.2.2.2 ⟨Nat.le_of_ble_eq_true rfl, Nat.le_of_ble_eq_true rfl⟩) (fpreV E hP hS fc5 o_1v0 (by omega)) rfl rfl hl.1 rfl (lv_room (Nat.le_of_ble_eq_true rfl)) dX7_ifProved_27 ⟨Nat.zero_le _, Nat.zero_le _⟩) hS (fun r_27 ct_2 H locs p_27 hP hS => ?_)
    refine fs_vi (y := (nI (cN (pvn σ kd a0 b0) (mM σ)))) p_27.1 ?_
    have og9 := OGx.surv hO1 (SurvSh.upd o_1V (p_27.2.1) (p_27.2.2.1) (p_27.2.2.2.1)) p_27.2.2.2.2
    refine fs_iret E hr hlk hP hS dX7_ifProved_30 ?_
    rw [nI_cl (show kd < 1000000 by omega)]
    rw [nI_cl (show a0 < 1000000 by omega)]
    rw [nI_cl (show b0 < 1000000 by omega)]
    refine ⟨?_, (OGx.atk og9 hsv (fun j hj => (p_27.2.2.2.1) j (by omega))), (show fSame 0 239 _ _ from (fSame.tr2 fSame.rf p_27.2.2.2.2 (by omega) (by omega)))⟩
    rw [if_pos c_10]
  · have c_10 := (fb_0 p_7).mp c_10
    refine lv_bipush (v := (-2)) hx hb dX7_ifProved_13 (by decide) ?_
    refine fs_iret E hr hlk hP hS dX7_ifProved_15 ?_
    refine ⟨?_, hO, fSame.rf⟩
    rw [if_neg c_10]

set_option maxRecDepth 100000 in
set_option maxHeartbeats 4000000 in
theorem c_X7_sharpest (l : Launch) (g : fG) (N : Nat) (ct : Nat → va_E) (σ : Nat → Int32) (k : Nat) (hs : Nat → Nat → Int32) (u1 : Bool) (s1 : Nat → Int32) (u2 : Bool) (s2 : Nat → Int32) (t : Nat → Nat) (len : Nat) (hN : 239 ≤ N) (hO : OGAt g ct σ k hs u1 s1 u2 s2 t len) (x : Int32) : Met l yX7_sharpest (wsU yX7_sharpest cX7_sharpest 3 (some .int)) rX7_sharpest (fPre g N ct [.ref (fa g 0), .int x]) (fQi g N (fun r ct1 => r = (if x = 0 ∨ x = nI 1 then shR σ x else -2) ∧ OGAt g ct1 σ k hs u1 s1 u2 s2 t len ∧ fSame 0 239 ct ct1)) 0 0 (fB g) := by
  refine fs_start (own := RX7) (lv0 := [(0, .ref (fa g 0)), (1, .int x)]) (by decide) rfl (Nat.le_of_ble_eq_true rfl) rfl ?_
  intro p e s m args below meth c ls E hr hlk hnm hP hl hS
  have hx := E.1.1
  have hb := E.1.2.1
  obtain ⟨sv, hO1, hsv⟩ := id hO
  obtain ⟨o_1x, o_1H, o_1G, o_1Y, o_11, o_12, o_1P, o_1V⟩ := id (hO1)
  have o_1n3 := o_1G.n3
  have o_1n6 := o_1G.n6
  have o_1k := o_1G.k
  obtain ⟨o_1h0, ⟨o_1fl, o_1hl, o_1lw⟩, ⟨o_1fs, o_1hs, o_1sw⟩, ⟨o_1fg, o_1hg, o_1gw⟩, ⟨o_1fr, o_1hr, o_1rw⟩, o_1ru⟩ := id o_1H
  obtain ⟨o_1n, o_1nl, o_1y0, o_1k6, -, -, -⟩ := id o_1Y
  obtain ⟨⟨o_1ws, o_1mp, o_1mw, o_1v0⟩, -⟩ := id o_1V
  have o_1p0 := o_1P.1
  have o_1p60 := o_1P.2.2.1
  have o_1a0 := o_11.1
  have o_1b0 := o_12.1
  refine lv_iload_n hx hb dX7_sharpest_0 rfl (lv_at hl 1 rfl) ?_
  refine lv_if_eq (tgt := 12) hx hb dX7_sharpest_1 (by decide) (fun c_1 => ?_) (fun c_1 => ?_)
  · refine lv_aload_n hx hb dX7_sharpest_12 rfl (lv_at hl 0 rfl) ?_
    refine fs_r (va_runV (As := []) (rest := []) E.1 (c_X7_surveyNow l g N ct σ k hs u1 s1 u2 s2 t len (by omega) hO) (lk_RX7_131 E.1.2.2.2.2 ⟨Nat.le_of_ble_eq_true rfl, Nat.le_of_ble_eq_true rfl⟩) (fpreV E hP hS fc7 o_1x (by omega)) rfl rfl hl.1 rfl (lv_room (Nat.le_of_ble_eq_true rfl)) dX7_sharpest_13 ⟨Nat.zero_le _, Nat.zero_le _⟩) hS (fun r_13 ct_2 H locs p_13 hP hS => ?_)
    refine fs_vv (y := .ref (fa g 232)) p_13.1 ?_
    obtain ⟨o_3x, o_3H, o_3G, o_3Y, o_31, o_32, o_3P, o_3V⟩ := id (p_13.2.1)
    have o_3n3 := o_3G.n3
    have o_3n6 := o_3G.n6
    have o_3k := o_3G.k
    obtain ⟨o_3h0, ⟨o_3fl, o_3hl, o_3lw⟩, ⟨o_3fs, o_3hs, o_3sw⟩, ⟨o_3fg, o_3hg, o_3gw⟩, ⟨o_3fr, o_3hr, o_3rw⟩, o_3ru⟩ := id o_3H
    obtain ⟨o_3n, o_3nl, o_3y0, o_3k6, -, -, -⟩ := id o_3Y
    obtain ⟨⟨o_3mp, o_3mw, o_3v0⟩, ⟨o_3fv, o_3v3, o_3vw⟩, ⟨o_3fo, o_3v4, o_3ow⟩, ⟨o_3fb, o_3v5, o_3bw⟩⟩ := id (p_13.2.2.1)
    have o_3p0 := o_3P.1
    have o_3p60 := o_3P.2.2.1
    have o_3a0 := o_31.1
    have o_3b0 := o_32.1
    refine lv_aload_n hx hb dX7_sharpest_16 rfl (lv_at hl 0 rfl) ?_
    refine fs_get E hP (k := 0) (v := .ref (fa g 1)) 0 fc7 o_3x (by omega) (by decide) (wm wl_1 (i := 13) rfl) rfl dX7_sharpest_17 ?_
    refine fs_pi (va_runV (As := [.ref (fa g 1)]) (rest := []) E.1 (c_X5_sharpestRumour l g N ct_2 232 σ 1 (by omega) o_3H (by omega) o_3G p_13.2.2.1) (lk_RX7_226 E.1.2.2.2.2 ⟨Nat.le_of_ble_eq_true rfl, Nat.le_of_ble_eq_true rfl⟩) (fpreV E hP hS fc5 o_3v0 (by omega)) rfl rfl hl.1 rfl (lv_room (Nat.le_of_ble_eq_true rfl)) dX7_sharpest_20 ⟨Nat.zero_le _, Nat.zero_le _⟩) hS (fun r_20 locs p_20 hS => ?_)
    rcases hsf : shF σ with _ | b1
    · refine fs_vi (y := (-6)) (p_20.trans (by rw [hsf]; rfl)) ?_
      refine lv_istore_n (lv' := [(2, .int (-6)), (0, .ref (fa g 0)), (1, .int x)]) hx hb dX7_sharpest_23 rfl hl (by decide) rfl (fun ls hl => ?_)
      refine lv_iload_n hx hb dX7_sharpest_24 rfl (lv_at hl 0 rfl) ?_
      refine lv_bipush (v := (-6)) hx hb dX7_sharpest_25 (by decide) ?_
      refine lv_icmp_eq (tgt := 34) hx hb dX7_sharpest_27 (by decide) (fun c_27 => ?_) (fun c_27 => ?_)
      · refine lv_iload_n hx hb dX7_sharpest_34 rfl (lv_at hl 0 rfl) ?_
        refine fs_iret E hr hlk hP hS dX7_sharpest_35 ?_
        refine ⟨?_, (OGx.at1 p_13.2.1 p_13.2.2.1), (show fSame 0 239 _ _ from (fSame.tr2 fSame.rf p_13.2.2.2 (by omega) (by omega)))⟩
        rw [if_pos (Or.inl c_1), shR_n hsf]
      · refine lv_iload_n hx hb dX7_sharpest_30 rfl (lv_at hl 2 rfl) ?_
        refine lv_if_ne (tgt := 36) hx hb dX7_sharpest_31 (by decide) (fun c_31 => ?_) (fun c_31 => ?_)
        · refine lv_aload_n hx hb dX7_sharpest_36 rfl (lv_at hl 1 rfl) ?_
          refine fs_get E hP (k := 0) (v := .ref (fa g 232)) 5 fc7 o_3x (by omega) (by decide) (wm wl_2 (i := 6) rfl) rfl dX7_sharpest_37 ?_
          refine lv_iload_n hx hb dX7_sharpest_40 rfl (lv_at hl 0 rfl) ?_
          exact absurd rfl c_27
        · refine lv_iload_n hx hb dX7_sharpest_34 rfl (lv_at hl 0 rfl) ?_
          refine fs_iret E hr hlk hP hS dX7_sharpest_35 ?_
          exact absurd rfl c_27
    · refine fs_vi (y := (nI b1)) (p_20.trans (by rw [hsf]; rfl)) ?_
      have hb1 : b1 < nT σ := (bst_lt hsf).1
      refine lv_istore_n (lv' := [(2, .int (nI b1)), (0, .ref (fa g 0)), (1, .int x)]) hx hb dX7_sharpest_23 rfl hl (by decide) rfl (fun ls hl => ?_)
      refine lv_iload_n hx hb dX7_sharpest_24 rfl (lv_at hl 0 rfl) ?_
      refine lv_bipush (v := (-6)) hx hb dX7_sharpest_25 (by decide) ?_
      refine lv_icmp_eq (tgt := 34) hx hb dX7_sharpest_27 (by decide) (fun c_27 => ?_) (fun c_27 => ?_)
      · refine lv_iload_n hx hb dX7_sharpest_34 rfl (lv_at hl 0 rfl) ?_
        refine fs_iret E hr hlk hP hS dX7_sharpest_35 ?_
        exact absurd c_27 (nI_ne6 (by omega))
      · refine lv_iload_n hx hb dX7_sharpest_30 rfl (lv_at hl 2 rfl) ?_
        refine lv_if_ne (tgt := 36) hx hb dX7_sharpest_31 (by decide) (fun c_31 => ?_) (fun c_31 => ?_)
        · refine lv_aload_n hx hb dX7_sharpest_36 rfl (lv_at hl 1 rfl) ?_
          refine fs_get E hP (k := 0) (v := .ref (fa g 232)) 5 fc7 o_3x (by omega) (by decide) (wm wl_2 (i := 6) rfl) rfl dX7_sharpest_37 ?_
          refine lv_iload_n hx hb dX7_sharpest_40 rfl (lv_at hl 0 rfl) ?_
          refine fs_pi (va_runV (As := [.int (nI b1)]) (rest := []) E.1 (c_X5_worseOutcome l g N ct_2 232 σ b1 hb1 (by omega) o_3G p_13.2.2.1) (lk_RX7_229 E.1.2.2.2.2 ⟨Nat.le_of_ble_eq_true rfl, Nat.le_of_ble_eq_true rfl⟩) (fpreV E hP hS fc5 o_3v0 (by omega)) rfl rfl hl.1 rfl (lv_room (Nat.le_of_ble_eq_true rfl)) dX7_sharpest_41 ⟨Nat.zero_le _, Nat.zero_le _⟩) hS (fun r_41 locs p_41 hS => ?_)
          refine fs_vi (y := (nI (WOn σ b1))) p_41 ?_
          refine fs_iret E hr hlk hP hS dX7_sharpest_44 ?_
          refine ⟨?_, (OGx.at1 p_13.2.1 p_13.2.2.1), (show fSame 0 239 _ _ from (fSame.tr2 fSame.rf p_13.2.2.2 (by omega) (by omega)))⟩
          rw [if_pos (Or.inl c_1), shR_1 hsf c_31]
        · refine lv_iload_n hx hb dX7_sharpest_34 rfl (lv_at hl 0 rfl) ?_
          refine fs_iret E hr hlk hP hS dX7_sharpest_35 ?_
          refine ⟨?_, (OGx.at1 p_13.2.1 p_13.2.2.1), (show fSame 0 239 _ _ from (fSame.tr2 fSame.rf p_13.2.2.2 (by omega) (by omega)))⟩
          rw [if_pos (Or.inl c_1), shR_0 hsf c_31]
  · refine lv_iload_n hx hb dX7_sharpest_4 rfl (lv_at hl 1 rfl) ?_
    refine lv_iconst (v := (nI 1)) hx hb dX7_sharpest_5 (by decide) ?_
    refine lv_icmp_eq (tgt := 12) hx hb dX7_sharpest_6 (by decide) (fun c_6 => ?_) (fun c_6 => ?_)
    · refine lv_aload_n hx hb dX7_sharpest_12 rfl (lv_at hl 0 rfl) ?_
      refine fs_r (va_runV (As := []) (rest := []) E.1 (c_X7_surveyNow l g N ct σ k hs u1 s1 u2 s2 t len (by omega) hO) (lk_RX7_131 E.1.2.2.2.2 ⟨Nat.le_of_ble_eq_true rfl, Nat.le_of_ble_eq_true rfl⟩) (fpreV E hP hS fc7 o_1x (by omega)) rfl rfl hl.1 rfl (lv_room (Nat.le_of_ble_eq_true rfl)) dX7_sharpest_13 ⟨Nat.zero_le _, Nat.zero_le _⟩) hS (fun r_13 ct_4 H locs p_13 hP hS => ?_)
      refine fs_vv (y := .ref (fa g 232)) p_13.1 ?_
      obtain ⟨o_5x, o_5H, o_5G, o_5Y, o_51, o_52, o_5P, o_5V⟩ := id (p_13.2.1)
      have o_5n3 := o_5G.n3
      have o_5n6 := o_5G.n6
      have o_5k := o_5G.k
      obtain ⟨o_5h0, ⟨o_5fl, o_5hl, o_5lw⟩, ⟨o_5fs, o_5hs, o_5sw⟩, ⟨o_5fg, o_5hg, o_5gw⟩, ⟨o_5fr, o_5hr, o_5rw⟩, o_5ru⟩ := id o_5H
      obtain ⟨o_5n, o_5nl, o_5y0, o_5k6, -, -, -⟩ := id o_5Y
      obtain ⟨⟨o_5mp, o_5mw, o_5v0⟩, ⟨o_5fv, o_5v3, o_5vw⟩, ⟨o_5fo, o_5v4, o_5ow⟩, ⟨o_5fb, o_5v5, o_5bw⟩⟩ := id (p_13.2.2.1)
      have o_5p0 := o_5P.1
      have o_5p60 := o_5P.2.2.1
      have o_5a0 := o_51.1
      have o_5b0 := o_52.1
      refine lv_aload_n hx hb dX7_sharpest_16 rfl (lv_at hl 0 rfl) ?_
      refine fs_get E hP (k := 0) (v := .ref (fa g 1)) 0 fc7 o_5x (by omega) (by decide) (wm wl_1 (i := 13) rfl) rfl dX7_sharpest_17 ?_
      refine fs_pi (va_runV (As := [.ref (fa g 1)]) (rest := []) E.1 (c_X5_sharpestRumour l g N ct_4 232 σ 1 (by omega) o_5H (by omega) o_5G p_13.2.2.1) (lk_RX7_226 E.1.2.2.2.2 ⟨Nat.le_of_ble_eq_true rfl, Nat.le_of_ble_eq_true rfl⟩) (fpreV E hP hS fc5 o_5v0 (by omega)) rfl rfl hl.1 rfl (lv_room (Nat.le_of_ble_eq_true rfl)) dX7_sharpest_20 ⟨Nat.zero_le _, Nat.zero_le _⟩) hS (fun r_20 locs p_20 hS => ?_)
      rcases hsf : shF σ with _ | b1
      · refine fs_vi (y := (-6)) (p_20.trans (by rw [hsf]; rfl)) ?_
        refine lv_istore_n (lv' := [(2, .int (-6)), (0, .ref (fa g 0)), (1, .int x)]) hx hb dX7_sharpest_23 rfl hl (by decide) rfl (fun ls hl => ?_)
        refine lv_iload_n hx hb dX7_sharpest_24 rfl (lv_at hl 0 rfl) ?_
        refine lv_bipush (v := (-6)) hx hb dX7_sharpest_25 (by decide) ?_
        refine lv_icmp_eq (tgt := 34) hx hb dX7_sharpest_27 (by decide) (fun c_27 => ?_) (fun c_27 => ?_)
        · refine lv_iload_n hx hb dX7_sharpest_34 rfl (lv_at hl 0 rfl) ?_
          refine fs_iret E hr hlk hP hS dX7_sharpest_35 ?_
          refine ⟨?_, (OGx.at1 p_13.2.1 p_13.2.2.1), (show fSame 0 239 _ _ from (fSame.tr2 fSame.rf p_13.2.2.2 (by omega) (by omega)))⟩
          rw [if_pos (Or.inr c_6), shR_n hsf]
        · refine lv_iload_n hx hb dX7_sharpest_30 rfl (lv_at hl 2 rfl) ?_
          refine lv_if_ne (tgt := 36) hx hb dX7_sharpest_31 (by decide) (fun c_31 => ?_) (fun c_31 => ?_)
          · refine lv_aload_n hx hb dX7_sharpest_36 rfl (lv_at hl 1 rfl) ?_
            refine fs_get E hP (k := 0) (v := .ref (fa g 232)) 5 fc7 o_5x (by omega) (by decide) (wm wl_2 (i := 6) rfl) rfl dX7_sharpest_37 ?_
            refine lv_iload_n hx hb dX7_sharpest_40 rfl (lv_at hl 0 rfl) ?_
            exact absurd rfl c_27
          · refine lv_iload_n hx hb dX7_sharpest_34 rfl (lv_at hl 0 rfl) ?_
            refine fs_iret E hr hlk hP hS dX7_sharpest_35 ?_
            exact absurd rfl c_27
      · refine fs_vi (y := (nI b1)) (p_20.trans (by rw [hsf]; rfl)) ?_
        have hb1 : b1 < nT σ := (bst_lt hsf).1
        refine lv_istore_n (lv' := [(2, .int (nI b1)), (0, .ref (fa g 0)), (1, .int x)]) hx hb dX7_sharpest_23 rfl hl (by decide) rfl (fun ls hl => ?_)
        refine lv_iload_n hx hb dX7_sharpest_24 rfl (lv_at hl 0 rfl) ?_
        refine lv_bipush (v := (-6)) hx hb dX7_sharpest_25 (by decide) ?_
        refine lv_icmp_eq (tgt := 34) hx hb dX7_sharpest_27 (by decide) (fun c_27 => ?_) (fun c_27 => ?_)
        · refine lv_iload_n hx hb dX7_sharpest_34 rfl (lv_at hl 0 rfl) ?_
          refine fs_iret E hr hlk hP hS dX7_sharpest_35 ?_
          exact absurd c_27 (nI_ne6 (by omega))
        · refine lv_iload_n hx hb dX7_sharpest_30 rfl (lv_at hl 2 rfl) ?_
          refine lv_if_ne (tgt := 36) hx hb dX7_sharpest_31 (by decide) (fun c_31 => ?_) (fun c_31 => ?_)
          · refine lv_aload_n hx hb dX7_sharpest_36 rfl (lv_at hl 1 rfl) ?_
            refine fs_get E hP (k := 0) (v := .ref (fa g 232)) 5 fc7 o_5x (by omega) (by decide) (wm wl_2 (i := 6) rfl) rfl dX7_sharpest_37 ?_
            refine lv_iload_n hx hb dX7_sharpest_40 rfl (lv_at hl 0 rfl) ?_
            refine fs_pi (va_runV (As := [.int (nI b1)]) (rest := []) E.1 (c_X5_worseOutcome l g N ct_4 232 σ b1 hb1 (by omega) o_5G p_13.2.2.1) (lk_RX7_229 E.1.2.2.2.2 ⟨Nat.le_of_ble_eq_true rfl, Nat.le_of_ble_eq_true rfl⟩) (fpreV E hP hS fc5 o_5v0 (by omega)) rfl rfl hl.1 rfl (lv_room (Nat.le_of_ble_eq_true rfl)) dX7_sharpest_41 ⟨Nat.zero_le _, Nat.zero_le _⟩) hS (fun r_41 locs p_41 hS => ?_)
            refine fs_vi (y := (nI (WOn σ b1))) p_41 ?_
            refine fs_iret E hr hlk hP hS dX7_sharpest_44 ?_
            refine ⟨?_, (OGx.at1 p_13.2.1 p_13.2.2.1), (show fSame 0 239 _ _ from (fSame.tr2 fSame.rf p_13.2.2.2 (by omega) (by omega)))⟩
            rw [if_pos (Or.inr c_6), shR_1 hsf c_31]
          · refine lv_iload_n hx hb dX7_sharpest_34 rfl (lv_at hl 0 rfl) ?_
            refine fs_iret E hr hlk hP hS dX7_sharpest_35 ?_
            refine ⟨?_, (OGx.at1 p_13.2.1 p_13.2.2.1), (show fSame 0 239 _ _ from (fSame.tr2 fSame.rf p_13.2.2.2 (by omega) (by omega)))⟩
            rw [if_pos (Or.inr c_6), shR_0 hsf c_31]
    · refine lv_bipush (v := (-2)) hx hb dX7_sharpest_9 (by decide) ?_
      refine fs_iret E hr hlk hP hS dX7_sharpest_11 ?_
      refine ⟨?_, hO, fSame.rf⟩
      rw [if_neg (fun z => z.elim c_1 c_6)]

set_option maxRecDepth 100000 in
set_option maxHeartbeats 4000000 in
theorem c_X7_blame (l : Launch) (g : fG) (N : Nat) (ct : Nat → va_E) (σ : Nat → Int32) (k : Nat) (hs : Nat → Nat → Int32) (u1 : Bool) (s1 : Nat → Int32) (u2 : Bool) (s2 : Nat → Int32) (t : Nat → Nat) (len : Nat) (hN : 239 ≤ N) (hO : OGAt g ct σ k hs u1 s1 u2 s2 t len) (x : Int32) : Met l yX7_blame (wsU yX7_blame cX7_blame 3 (some .int)) rX7_blame (fPre g N ct [.ref (fa g 0), .int x]) (fQi g N (fun r ct1 => r = (if x = 0 ∨ x = nI 1 then blR σ x else -2) ∧ OGAt g ct1 σ k hs u1 s1 u2 s2 t len ∧ fSame 0 239 ct ct1)) 0 0 (fB g) := by
  refine fs_start (own := RX7) (lv0 := [(0, .ref (fa g 0)), (1, .int x)]) (by decide) rfl (Nat.le_of_ble_eq_true rfl) rfl ?_
  intro p e s m args below meth c ls E hr hlk hnm hP hl hS
  have hx := E.1.1
  have hb := E.1.2.1
  obtain ⟨sv, hO1, hsv⟩ := id hO
  obtain ⟨o_1x, o_1H, o_1G, o_1Y, o_11, o_12, o_1P, o_1V⟩ := id (hO1)
  have o_1n3 := o_1G.n3
  have o_1n6 := o_1G.n6
  have o_1k := o_1G.k
  obtain ⟨o_1h0, ⟨o_1fl, o_1hl, o_1lw⟩, ⟨o_1fs, o_1hs, o_1sw⟩, ⟨o_1fg, o_1hg, o_1gw⟩, ⟨o_1fr, o_1hr, o_1rw⟩, o_1ru⟩ := id o_1H
  obtain ⟨o_1n, o_1nl, o_1y0, o_1k6, -, -, -⟩ := id o_1Y
  obtain ⟨⟨o_1ws, o_1mp, o_1mw, o_1v0⟩, -⟩ := id o_1V
  have o_1p0 := o_1P.1
  have o_1p60 := o_1P.2.2.1
  have o_1a0 := o_11.1
  have o_1b0 := o_12.1
  refine lv_iload_n hx hb dX7_blame_0 rfl (lv_at hl 1 rfl) ?_
  refine lv_if_eq (tgt := 12) hx hb dX7_blame_1 (by decide) (fun c_1 => ?_) (fun c_1 => ?_)
  · refine lv_aload_n hx hb dX7_blame_12 rfl (lv_at hl 0 rfl) ?_
    refine fs_r (va_runV (As := []) (rest := []) E.1 (c_X7_surveyNow l g N ct σ k hs u1 s1 u2 s2 t len (by omega) hO) (lk_RX7_131 E.1.2.2.2.2 ⟨Nat.le_of_ble_eq_true rfl, Nat.le_of_ble_eq_true rfl⟩) (fpreV E hP hS fc7 o_1x (by omega)) rfl rfl hl.1 rfl (lv_room (Nat.le_of_ble_eq_true rfl)) dX7_blame_13 ⟨Nat.zero_le _, Nat.zero_le _⟩) hS (fun r_13 ct_2 H locs p_13 hP hS => ?_)
    refine fs_vv (y := .ref (fa g 232)) p_13.1 ?_
    obtain ⟨o_3x, o_3H, o_3G, o_3Y, o_31, o_32, o_3P, o_3V⟩ := id (p_13.2.1)
    have o_3n3 := o_3G.n3
    have o_3n6 := o_3G.n6
    have o_3k := o_3G.k
    obtain ⟨o_3h0, ⟨o_3fl, o_3hl, o_3lw⟩, ⟨o_3fs, o_3hs, o_3sw⟩, ⟨o_3fg, o_3hg, o_3gw⟩, ⟨o_3fr, o_3hr, o_3rw⟩, o_3ru⟩ := id o_3H
    obtain ⟨o_3n, o_3nl, o_3y0, o_3k6, -, -, -⟩ := id o_3Y
    obtain ⟨⟨o_3mp, o_3mw, o_3v0⟩, ⟨o_3fv, o_3v3, o_3vw⟩, ⟨o_3fo, o_3v4, o_3ow⟩, ⟨o_3fb, o_3v5, o_3bw⟩⟩ := id (p_13.2.2.1)
    have o_3p0 := o_3P.1
    have o_3p60 := o_3P.2.2.1
    have o_3a0 := o_31.1
    have o_3b0 := o_32.1
    have hWl := Wn_le o_3G
    refine fs_getN E hP (k := 232) (v := .int (nI (Wn σ))) 1 fc5 o_3v0 (by omega) (by decide) (j := 18) rfl rfl dX7_blame_16 ?_
    refine lv_if_le (tgt := 25) hx hb dX7_blame_19 (by decide) (fun c_19 => ?_) (fun c_19 => ?_)
    · rw [fz_leN (by omega)] at c_19
      refine lv_aload_n hx hb dX7_blame_25 rfl (lv_at hl 0 rfl) ?_
      refine fs_get E hP (k := 0) (v := .ref (fa g 232)) 5 fc7 o_3x (by omega) (by decide) (wm wl_2 (i := 6) rfl) rfl dX7_blame_26 ?_
      refine lv_aload_n hx hb dX7_blame_29 rfl (lv_at hl 0 rfl) ?_
      refine fs_get E hP (k := 0) (v := .ref (fa g 1)) 0 fc7 o_3x (by omega) (by decide) (wm wl_1 (i := 13) rfl) rfl dX7_blame_30 ?_
      refine fs_pi (va_runV (As := [.ref (fa g 1)]) (rest := []) E.1 (c_X5_mostToBlame l g N ct_2 232 σ 1 (by omega) o_3H (by omega) o_3G p_13.2.2.1) (lk_RX7_232 E.1.2.2.2.2 ⟨Nat.le_of_ble_eq_true rfl, Nat.le_of_ble_eq_true rfl⟩) (fpreV E hP hS fc5 o_3v0 (by omega)) rfl rfl hl.1 rfl (lv_room (Nat.le_of_ble_eq_true rfl)) dX7_blame_33 ⟨Nat.zero_le _, Nat.zero_le _⟩) hS (fun r_33 locs p_33 hS => ?_)
      rcases hsf : blF σ with _ | b1
      · refine fs_vi (y := (-6)) (p_33.trans (by rw [hsf]; rfl)) ?_
        refine lv_istore_n (lv' := [(2, .int (-6)), (0, .ref (fa g 0)), (1, .int x)]) hx hb dX7_blame_36 rfl hl (by decide) rfl (fun ls hl => ?_)
        refine lv_iload_n hx hb dX7_blame_37 rfl (lv_at hl 0 rfl) ?_
        refine lv_bipush (v := (-6)) hx hb dX7_blame_38 (by decide) ?_
        refine lv_icmp_eq (tgt := 47) hx hb dX7_blame_40 (by decide) (fun c_40 => ?_) (fun c_40 => ?_)
        · refine lv_iload_n hx hb dX7_blame_47 rfl (lv_at hl 0 rfl) ?_
          refine fs_iret E hr hlk hP hS dX7_blame_48 ?_
          refine ⟨?_, (OGx.at1 p_13.2.1 p_13.2.2.1), (show fSame 0 239 _ _ from (fSame.tr2 fSame.rf p_13.2.2.2 (by omega) (by omega)))⟩
          rw [if_pos (Or.inl c_1), blR_n (by omega) hsf]
        · refine lv_iload_n hx hb dX7_blame_43 rfl (lv_at hl 2 rfl) ?_
          refine lv_if_ne (tgt := 49) hx hb dX7_blame_44 (by decide) (fun c_44 => ?_) (fun c_44 => ?_)
          · refine lv_aload_n hx hb dX7_blame_49 rfl (lv_at hl 1 rfl) ?_
            refine fs_get E hP (k := 0) (v := .ref (fa g 232)) 5 fc7 o_3x (by omega) (by decide) (wm wl_2 (i := 6) rfl) rfl dX7_blame_50 ?_
            refine fs_getN E hP (k := 232) (v := .ref (fa g 237)) 6 fc5 o_3v0 (by omega) (by decide) (j := 22) rfl rfl dX7_blame_53 ?_
            refine lv_iload_n hx hb dX7_blame_56 rfl (lv_at hl 0 rfl) ?_
            exact absurd rfl c_40
          · refine lv_iload_n hx hb dX7_blame_47 rfl (lv_at hl 0 rfl) ?_
            refine fs_iret E hr hlk hP hS dX7_blame_48 ?_
            refine ⟨?_, (OGx.at1 p_13.2.1 p_13.2.2.1), (show fSame 0 239 _ _ from (fSame.tr2 fSame.rf p_13.2.2.2 (by omega) (by omega)))⟩
            rw [if_pos (Or.inl c_1), blR_n (by omega) hsf]
      · refine fs_vi (y := (nI b1)) (p_33.trans (by rw [hsf]; rfl)) ?_
        have hb1 : b1 < nT σ := (bst_lt hsf).1
        refine lv_istore_n (lv' := [(2, .int (nI b1)), (0, .ref (fa g 0)), (1, .int x)]) hx hb dX7_blame_36 rfl hl (by decide) rfl (fun ls hl => ?_)
        refine lv_iload_n hx hb dX7_blame_37 rfl (lv_at hl 0 rfl) ?_
        refine lv_bipush (v := (-6)) hx hb dX7_blame_38 (by decide) ?_
        refine lv_icmp_eq (tgt := 47) hx hb dX7_blame_40 (by decide) (fun c_40 => ?_) (fun c_40 => ?_)
        · refine lv_iload_n hx hb dX7_blame_47 rfl (lv_at hl 0 rfl) ?_
          refine fs_iret E hr hlk hP hS dX7_blame_48 ?_
          exact absurd c_40 (nI_ne6 (by omega))
        · refine lv_iload_n hx hb dX7_blame_43 rfl (lv_at hl 2 rfl) ?_
          refine lv_if_ne (tgt := 49) hx hb dX7_blame_44 (by decide) (fun c_44 => ?_) (fun c_44 => ?_)
          · refine lv_aload_n hx hb dX7_blame_49 rfl (lv_at hl 1 rfl) ?_
            refine fs_get E hP (k := 0) (v := .ref (fa g 232)) 5 fc7 o_3x (by omega) (by decide) (wm wl_2 (i := 6) rfl) rfl dX7_blame_50 ?_
            refine fs_getN E hP (k := 232) (v := .ref (fa g 237)) 6 fc5 o_3v0 (by omega) (by decide) (j := 22) rfl rfl dX7_blame_53 ?_
            refine lv_iload_n hx hb dX7_blame_56 rfl (lv_at hl 0 rfl) ?_
            refine fs_pi (va_runS (As := [.ref (fa g 237), .int (nI b1)]) (rest := []) E.1 (c_X7_at l g N ct_2 237 20 o_3fb (nI b1) (by omega) (by omega) o_3v5) (lk_RX7_66 E.1.2.2.2.2 ⟨Nat.le_of_ble_eq_true rfl, Nat.le_of_ble_eq_true rfl⟩) (fpreS E hP hS) rfl rfl hl.1 rfl (lv_room (Nat.le_of_ble_eq_true rfl)) dX7_blame_57 ⟨Nat.zero_le _, Nat.zero_le _⟩) hS (fun r_57 locs p_57 hS => ?_)
            refine fs_vi (y := (nI (ONn σ b1))) (p_57.trans ((atF_in (by omega) (by omega)).trans (o_3bw b1 hb1))) ?_
            refine fs_iret E hr hlk hP hS dX7_blame_60 ?_
            refine ⟨?_, (OGx.at1 p_13.2.1 p_13.2.2.1), (show fSame 0 239 _ _ from (fSame.tr2 fSame.rf p_13.2.2.2 (by omega) (by omega)))⟩
            rw [if_pos (Or.inl c_1), blR_1 (by omega) hsf c_44]
          · refine lv_iload_n hx hb dX7_blame_47 rfl (lv_at hl 0 rfl) ?_
            refine fs_iret E hr hlk hP hS dX7_blame_48 ?_
            refine ⟨?_, (OGx.at1 p_13.2.1 p_13.2.2.1), (show fSame 0 239 _ _ from (fSame.tr2 fSame.rf p_13.2.2.2 (by omega) (by omega)))⟩
            rw [if_pos (Or.inl c_1), blR_0 (by omega) hsf c_44]
    · rw [fz_leN (by omega)] at c_19
      refine lv_bipush (v := (-6)) hx hb dX7_blame_22 (by decide) ?_
      refine fs_iret E hr hlk hP hS dX7_blame_24 ?_
      refine ⟨?_, (OGx.at1 p_13.2.1 p_13.2.2.1), (show fSame 0 239 _ _ from (fSame.tr2 fSame.rf p_13.2.2.2 (by omega) (by omega)))⟩
      rw [if_pos (Or.inl c_1), blR_p (by omega)]
  · refine lv_iload_n hx hb dX7_blame_4 rfl (lv_at hl 1 rfl) ?_
    refine lv_iconst (v := (nI 1)) hx hb dX7_blame_5 (by decide) ?_
    refine lv_icmp_eq (tgt := 12) hx hb dX7_blame_6 (by decide) (fun c_6 => ?_) (fun c_6 => ?_)
    · refine lv_aload_n hx hb dX7_blame_12 rfl (lv_at hl 0 rfl) ?_
      refine fs_r (va_runV (As := []) (rest := []) E.1 (c_X7_surveyNow l g N ct σ k hs u1 s1 u2 s2 t len (by omega) hO) (lk_RX7_131 E.1.2.2.2.2 ⟨Nat.le_of_ble_eq_true rfl, Nat.le_of_ble_eq_true rfl⟩) (fpreV E hP hS fc7 o_1x (by omega)) rfl rfl hl.1 rfl (lv_room (Nat.le_of_ble_eq_true rfl)) dX7_blame_13 ⟨Nat.zero_le _, Nat.zero_le _⟩) hS (fun r_13 ct_4 H locs p_13 hP hS => ?_)
      refine fs_vv (y := .ref (fa g 232)) p_13.1 ?_
      obtain ⟨o_5x, o_5H, o_5G, o_5Y, o_51, o_52, o_5P, o_5V⟩ := id (p_13.2.1)
      have o_5n3 := o_5G.n3
      have o_5n6 := o_5G.n6
      have o_5k := o_5G.k
      obtain ⟨o_5h0, ⟨o_5fl, o_5hl, o_5lw⟩, ⟨o_5fs, o_5hs, o_5sw⟩, ⟨o_5fg, o_5hg, o_5gw⟩, ⟨o_5fr, o_5hr, o_5rw⟩, o_5ru⟩ := id o_5H
      obtain ⟨o_5n, o_5nl, o_5y0, o_5k6, -, -, -⟩ := id o_5Y
      obtain ⟨⟨o_5mp, o_5mw, o_5v0⟩, ⟨o_5fv, o_5v3, o_5vw⟩, ⟨o_5fo, o_5v4, o_5ow⟩, ⟨o_5fb, o_5v5, o_5bw⟩⟩ := id (p_13.2.2.1)
      have o_5p0 := o_5P.1
      have o_5p60 := o_5P.2.2.1
      have o_5a0 := o_51.1
      have o_5b0 := o_52.1
      have hWl := Wn_le o_5G
      refine fs_getN E hP (k := 232) (v := .int (nI (Wn σ))) 1 fc5 o_5v0 (by omega) (by decide) (j := 18) rfl rfl dX7_blame_16 ?_
      refine lv_if_le (tgt := 25) hx hb dX7_blame_19 (by decide) (fun c_19 => ?_) (fun c_19 => ?_)
      · rw [fz_leN (by omega)] at c_19
        refine lv_aload_n hx hb dX7_blame_25 rfl (lv_at hl 0 rfl) ?_
        refine fs_get E hP (k := 0) (v := .ref (fa g 232)) 5 fc7 o_5x (by omega) (by decide) (wm wl_2 (i := 6) rfl) rfl dX7_blame_26 ?_
        refine lv_aload_n hx hb dX7_blame_29 rfl (lv_at hl 0 rfl) ?_
        refine fs_get E hP (k := 0) (v := .ref (fa g 1)) 0 fc7 o_5x (by omega) (by decide) (wm wl_1 (i := 13) rfl) rfl dX7_blame_30 ?_
        refine fs_pi (va_runV (As := [.ref (fa g 1)]) (rest := []) E.1 (c_X5_mostToBlame l g N ct_4 232 σ 1 (by omega) o_5H (by omega) o_5G p_13.2.2.1) (lk_RX7_232 E.1.2.2.2.2 ⟨Nat.le_of_ble_eq_true rfl, Nat.le_of_ble_eq_true rfl⟩) (fpreV E hP hS fc5 o_5v0 (by omega)) rfl rfl hl.1 rfl (lv_room (Nat.le_of_ble_eq_true rfl)) dX7_blame_33 ⟨Nat.zero_le _, Nat.zero_le _⟩) hS (fun r_33 locs p_33 hS => ?_)
        rcases hsf : blF σ with _ | b1
        · refine fs_vi (y := (-6)) (p_33.trans (by rw [hsf]; rfl)) ?_
          refine lv_istore_n (lv' := [(2, .int (-6)), (0, .ref (fa g 0)), (1, .int x)]) hx hb dX7_blame_36 rfl hl (by decide) rfl (fun ls hl => ?_)
          refine lv_iload_n hx hb dX7_blame_37 rfl (lv_at hl 0 rfl) ?_
          refine lv_bipush (v := (-6)) hx hb dX7_blame_38 (by decide) ?_
          refine lv_icmp_eq (tgt := 47) hx hb dX7_blame_40 (by decide) (fun c_40 => ?_) (fun c_40 => ?_)
          · refine lv_iload_n hx hb dX7_blame_47 rfl (lv_at hl 0 rfl) ?_
            refine fs_iret E hr hlk hP hS dX7_blame_48 ?_
            refine ⟨?_, (OGx.at1 p_13.2.1 p_13.2.2.1), (show fSame 0 239 _ _ from (fSame.tr2 fSame.rf p_13.2.2.2 (by omega) (by omega)))⟩
            rw [if_pos (Or.inr c_6), blR_n (by omega) hsf]
          · refine lv_iload_n hx hb dX7_blame_43 rfl (lv_at hl 2 rfl) ?_
            refine lv_if_ne (tgt := 49) hx hb dX7_blame_44 (by decide) (fun c_44 => ?_) (fun c_44 => ?_)
            · refine lv_aload_n hx hb dX7_blame_49 rfl (lv_at hl 1 rfl) ?_
              refine fs_get E hP (k := 0) (v := .ref (fa g 232)) 5 fc7 o_5x (by omega) (by decide) (wm wl_2 (i := 6) rfl) rfl dX7_blame_50 ?_
              refine fs_getN E hP (k := 232) (v := .ref (fa g 237)) 6 fc5 o_5v0 (by omega) (by decide) (j := 22) rfl rfl dX7_blame_53 ?_
              refine lv_iload_n hx hb dX7_blame_56 rfl (lv_at hl 0 rfl) ?_
              exact absurd rfl c_40
            · refine lv_iload_n hx hb dX7_blame_47 rfl (lv_at hl 0 rfl) ?_
              refine fs_iret E hr hlk hP hS dX7_blame_48 ?_
              refine ⟨?_, (OGx.at1 p_13.2.1 p_13.2.2.1), (show fSame 0 239 _ _ from (fSame.tr2 fSame.rf p_13.2.2.2 (by omega) (by omega)))⟩
              rw [if_pos (Or.inr c_6), blR_n (by omega) hsf]
        · refine fs_vi (y := (nI b1)) (p_33.trans (by rw [hsf]; rfl)) ?_
          have hb1 : b1 < nT σ := (bst_lt hsf).1
          refine lv_istore_n (lv' := [(2, .int (nI b1)), (0, .ref (fa g 0)), (1, .int x)]) hx hb dX7_blame_36 rfl hl (by decide) rfl (fun ls hl => ?_)
          refine lv_iload_n hx hb dX7_blame_37 rfl (lv_at hl 0 rfl) ?_
          refine lv_bipush (v := (-6)) hx hb dX7_blame_38 (by decide) ?_
          refine lv_icmp_eq (tgt := 47) hx hb dX7_blame_40 (by decide) (fun c_40 => ?_) (fun c_40 => ?_)
          · refine lv_iload_n hx hb dX7_blame_47 rfl (lv_at hl 0 rfl) ?_
            refine fs_iret E hr hlk hP hS dX7_blame_48 ?_
            exact absurd c_40 (nI_ne6 (by omega))
          · refine lv_iload_n hx hb dX7_blame_43 rfl (lv_at hl 2 rfl) ?_
            refine lv_if_ne (tgt := 49) hx hb dX7_blame_44 (by decide) (fun c_44 => ?_) (fun c_44 => ?_)
            · refine lv_aload_n hx hb dX7_blame_49 rfl (lv_at hl 1 rfl) ?_
              refine fs_get E hP (k := 0) (v := .ref (fa g 232)) 5 fc7 o_5x (by omega) (by decide) (wm wl_2 (i := 6) rfl) rfl dX7_blame_50 ?_
              refine fs_getN E hP (k := 232) (v := .ref (fa g 237)) 6 fc5 o_5v0 (by omega) (by decide) (j := 22) rfl rfl dX7_blame_53 ?_
              refine lv_iload_n hx hb dX7_blame_56 rfl (lv_at hl 0 rfl) ?_
              refine fs_pi (va_runS (As := [.ref (fa g 237), .int (nI b1)]) (rest := []) E.1 (c_X7_at l g N ct_4 237 20 o_5fb (nI b1) (by omega) (by omega) o_5v5) (lk_RX7_66 E.1.2.2.2.2 ⟨Nat.le_of_ble_eq_true rfl, Nat.le_of_ble_eq_true rfl⟩) (fpreS E hP hS) rfl rfl hl.1 rfl (lv_room (Nat.le_of_ble_eq_true rfl)) dX7_blame_57 ⟨Nat.zero_le _, Nat.zero_le _⟩) hS (fun r_57 locs p_57 hS => ?_)
              refine fs_vi (y := (nI (ONn σ b1))) (p_57.trans ((atF_in (by omega) (by omega)).trans (o_5bw b1 hb1))) ?_
              refine fs_iret E hr hlk hP hS dX7_blame_60 ?_
              refine ⟨?_, (OGx.at1 p_13.2.1 p_13.2.2.1), (show fSame 0 239 _ _ from (fSame.tr2 fSame.rf p_13.2.2.2 (by omega) (by omega)))⟩
              rw [if_pos (Or.inr c_6), blR_1 (by omega) hsf c_44]
            · refine lv_iload_n hx hb dX7_blame_47 rfl (lv_at hl 0 rfl) ?_
              refine fs_iret E hr hlk hP hS dX7_blame_48 ?_
              refine ⟨?_, (OGx.at1 p_13.2.1 p_13.2.2.1), (show fSame 0 239 _ _ from (fSame.tr2 fSame.rf p_13.2.2.2 (by omega) (by omega)))⟩
              rw [if_pos (Or.inr c_6), blR_0 (by omega) hsf c_44]
      · rw [fz_leN (by omega)] at c_19
        refine lv_bipush (v := (-6)) hx hb dX7_blame_22 (by decide) ?_
        refine fs_iret E hr hlk hP hS dX7_blame_24 ?_
        refine ⟨?_, (OGx.at1 p_13.2.1 p_13.2.2.1), (show fSame 0 239 _ _ from (fSame.tr2 fSame.rf p_13.2.2.2 (by omega) (by omega)))⟩
        rw [if_pos (Or.inr c_6), blR_p (by omega)]
    · refine lv_bipush (v := (-2)) hx hb dX7_blame_9 (by decide) ?_
      refine fs_iret E hr hlk hP hS dX7_blame_11 ?_
      refine ⟨?_, hO, fSame.rf⟩
      rw [if_neg (fun z => z.elim c_1 c_6)]

set_option maxRecDepth 100000 in
set_option maxHeartbeats 4000000 in
theorem c_X7_mostWatched (l : Launch) (g : fG) (N : Nat) (ct : Nat → va_E) (σ : Nat → Int32) (k : Nat) (hs : Nat → Nat → Int32) (u1 : Bool) (s1 : Nat → Int32) (u2 : Bool) (s2 : Nat → Int32) (t : Nat → Nat) (len : Nat) (hN : 239 ≤ N) (hO : OGAt g ct σ k hs u1 s1 u2 s2 t len) (x : Int32) : Met l yX7_mostWatched (wsU yX7_mostWatched cX7_mostWatched 2 (some .int)) rX7_mostWatched (fPre g N ct [.ref (fa g 0), .int x]) (fQi g N (fun r ct1 => r = (if x = 0 ∨ x = nI 1 then mwR σ x else -2) ∧ OGAt g ct1 σ k hs u1 s1 u2 s2 t len ∧ fSame 0 239 ct ct1)) 0 0 (fB g) := by
  refine fs_start (own := RX7) (lv0 := [(0, .ref (fa g 0)), (1, .int x)]) (by decide) rfl (Nat.le_of_ble_eq_true rfl) rfl ?_
  intro p e s m args below meth c ls E hr hlk hnm hP hl hS
  have hx := E.1.1
  have hb := E.1.2.1
  obtain ⟨sv, hO1, hsv⟩ := id hO
  obtain ⟨o_1x, o_1H, o_1G, o_1Y, o_11, o_12, o_1P, o_1V⟩ := id (hO1)
  have o_1n3 := o_1G.n3
  have o_1n6 := o_1G.n6
  have o_1k := o_1G.k
  obtain ⟨o_1h0, ⟨o_1fl, o_1hl, o_1lw⟩, ⟨o_1fs, o_1hs, o_1sw⟩, ⟨o_1fg, o_1hg, o_1gw⟩, ⟨o_1fr, o_1hr, o_1rw⟩, o_1ru⟩ := id o_1H
  obtain ⟨o_1n, o_1nl, o_1y0, o_1k6, -, -, -⟩ := id o_1Y
  obtain ⟨⟨o_1ws, o_1mp, o_1mw, o_1v0⟩, -⟩ := id o_1V
  have o_1p0 := o_1P.1
  have o_1p60 := o_1P.2.2.1
  have o_1a0 := o_11.1
  have o_1b0 := o_12.1
  refine lv_iload_n hx hb dX7_mostWatched_0 rfl (lv_at hl 1 rfl) ?_
  refine lv_if_eq (tgt := 12) hx hb dX7_mostWatched_1 (by decide) (fun c_1 => ?_) (fun c_1 => ?_)
  · refine lv_aload_n hx hb dX7_mostWatched_12 rfl (lv_at hl 0 rfl) ?_
    refine fs_get E hP (k := 0) (v := .ref (fa g 232)) 5 fc7 o_1x (by omega) (by decide) (wm wl_2 (i := 6) rfl) rfl dX7_mostWatched_13 ?_
    refine lv_aload_n hx hb dX7_mostWatched_16 rfl (lv_at hl 0 rfl) ?_
    refine fs_get E hP (k := 0) (v := .ref (fa g 1)) 0 fc7 o_1x (by omega) (by decide) (wm wl_1 (i := 13) rfl) rfl dX7_mostWatched_17 ?_
    refine fs_v (va_runV (As := [.ref (fa g 1)]) (rest := []) E.1 (c_X5_findMostWatched l g N ct 232 1 σ (by omega) (by omega) (by omega) o_1G o_1H o_1V) (lk_RX7_238 E.1.2.2.2.2 ⟨Nat.le_of_ble_eq_true rfl, Nat.le_of_ble_eq_true rfl⟩) (fpreV E hP hS fc5 o_1v0 (by omega)) rfl rfl hl.1 rfl (lv_room (Nat.le_of_ble_eq_true rfl)) dX7_mostWatched_20 ⟨Nat.zero_le _, Nat.zero_le _⟩) hS (fun ct_2 H locs p_20 hP hS => ?_)
    have og9 := OGx.surv hO1 (SurvSh.most o_1V p_20.1 p_20.2.1 p_20.2.2.1) p_20.2.2.2
    have v9 := p_20.1 _ _ _ o_1v0
    have hml := mwQ_lt o_1G (mM σ)
    obtain ⟨o_3x, o_3H, o_3G, o_3Y, o_31, o_32, o_3P, o_3V⟩ := id (og9)
    have o_3n3 := o_3G.n3
    have o_3n6 := o_3G.n6
    have o_3k := o_3G.k
    obtain ⟨o_3h0, ⟨o_3fl, o_3hl, o_3lw⟩, ⟨o_3fs, o_3hs, o_3sw⟩, ⟨o_3fg, o_3hg, o_3gw⟩, ⟨o_3fr, o_3hr, o_3rw⟩, o_3ru⟩ := id o_3H
    obtain ⟨o_3n, o_3nl, o_3y0, o_3k6, -, -, -⟩ := id o_3Y
    obtain ⟨⟨o_3ws, o_3mp, o_3mw, o_3v0⟩, -⟩ := id o_3V
    have o_3p0 := o_3P.1
    have o_3p60 := o_3P.2.2.1
    have o_3a0 := o_31.1
    have o_3b0 := o_32.1
    refine lv_aload_n hx hb dX7_mostWatched_23 rfl (lv_at hl 0 rfl) ?_
    refine fs_get E hP (k := 0) (v := .ref (fa g 232)) 5 fc7 o_3x (by omega) (by decide) (wm wl_2 (i := 6) rfl) rfl dX7_mostWatched_24 ?_
    refine fs_getN E hP (k := 232) (v := .int (nI (mwQ σ (mM σ)).2)) 3 fc5 v9 (by omega) (by decide) (j := 20) rfl rfl dX7_mostWatched_27 ?_
    refine lv_if_ne (tgt := 36) hx hb dX7_mostWatched_30 (by decide) (fun c_30 => ?_) (fun c_30 => ?_)
    · rw [fz_eqN (by omega)] at c_30
      refine lv_iload_n hx hb dX7_mostWatched_36 rfl (lv_at hl 1 rfl) ?_
      refine lv_if_ne (tgt := 50) hx hb dX7_mostWatched_37 (by decide) (fun c_37 => ?_) (fun c_37 => ?_)
      · refine lv_aload_n hx hb dX7_mostWatched_50 rfl (lv_at hl 0 rfl) ?_
        refine fs_get E hP (k := 0) (v := .ref (fa g 232)) 5 fc7 o_3x (by omega) (by decide) (wm wl_2 (i := 6) rfl) rfl dX7_mostWatched_51 ?_
        refine fs_getN E hP (k := 232) (v := .int (nI (mwQ σ (mM σ)).2)) 3 fc5 v9 (by omega) (by decide) (j := 20) rfl rfl dX7_mostWatched_54 ?_
        refine fs_iret E hr hlk hP hS dX7_mostWatched_57 ?_
        refine ⟨?_, (OGx.atm og9 hsv p_20.1 p_20.2.2.1), (show fSame 0 239 _ _ from (fSame.tr2 fSame.rf p_20.2.2.2 (by omega) (by omega)))⟩
        rw [if_pos (Or.inl c_1), mwR, if_neg c_30, if_neg c_37]
      · refine lv_aload_n hx hb dX7_mostWatched_40 rfl (lv_at hl 0 rfl) ?_
        refine fs_get E hP (k := 0) (v := .ref (fa g 232)) 5 fc7 o_3x (by omega) (by decide) (wm wl_2 (i := 6) rfl) rfl dX7_mostWatched_41 ?_
        refine fs_getN E hP (k := 232) (v := .int (nI (mwQ σ (mM σ)).1)) 2 fc5 v9 (by omega) (by decide) (j := 19) rfl rfl dX7_mostWatched_44 ?_
        refine lv_goto (tgt := 57) hx hb dX7_mostWatched_47 (by decide) ?_
        refine fs_iret E hr hlk hP hS dX7_mostWatched_57 ?_
        refine ⟨?_, (OGx.atm og9 hsv p_20.1 p_20.2.2.1), (show fSame 0 239 _ _ from (fSame.tr2 fSame.rf p_20.2.2.2 (by omega) (by omega)))⟩
        rw [if_pos (Or.inl c_1), mwR, if_neg c_30, if_pos c_37]
    · rw [fz_eqN (by omega)] at c_30
      refine lv_bipush (v := (-6)) hx hb dX7_mostWatched_33 (by decide) ?_
      refine fs_iret E hr hlk hP hS dX7_mostWatched_35 ?_
      refine ⟨?_, (OGx.atm og9 hsv p_20.1 p_20.2.2.1), (show fSame 0 239 _ _ from (fSame.tr2 fSame.rf p_20.2.2.2 (by omega) (by omega)))⟩
      rw [if_pos (Or.inl c_1), mwR, if_pos c_30]
  · refine lv_iload_n hx hb dX7_mostWatched_4 rfl (lv_at hl 1 rfl) ?_
    refine lv_iconst (v := (nI 1)) hx hb dX7_mostWatched_5 (by decide) ?_
    refine lv_icmp_eq (tgt := 12) hx hb dX7_mostWatched_6 (by decide) (fun c_6 => ?_) (fun c_6 => ?_)
    · refine lv_aload_n hx hb dX7_mostWatched_12 rfl (lv_at hl 0 rfl) ?_
      refine fs_get E hP (k := 0) (v := .ref (fa g 232)) 5 fc7 o_1x (by omega) (by decide) (wm wl_2 (i := 6) rfl) rfl dX7_mostWatched_13 ?_
      refine lv_aload_n hx hb dX7_mostWatched_16 rfl (lv_at hl 0 rfl) ?_
      refine fs_get E hP (k := 0) (v := .ref (fa g 1)) 0 fc7 o_1x (by omega) (by decide) (wm wl_1 (i := 13) rfl) rfl dX7_mostWatched_17 ?_
      refine fs_v (va_runV (As := [.ref (fa g 1)]) (rest := []) E.1 (c_X5_findMostWatched l g N ct 232 1 σ (by omega) (by omega) (by omega) o_1G o_1H o_1V) (lk_RX7_238 E.1.2.2.2.2 ⟨Nat.le_of_ble_eq_true rfl, Nat.le_of_ble_eq_true rfl⟩) (fpreV E hP hS fc5 o_1v0 (by omega)) rfl rfl hl.1 rfl (lv_room (Nat.le_of_ble_eq_true rfl)) dX7_mostWatched_20 ⟨Nat.zero_le _, Nat.zero_le _⟩) hS (fun ct_4 H locs p_20 hP hS => ?_)
      have og9 := OGx.surv hO1 (SurvSh.most o_1V p_20.1 p_20.2.1 p_20.2.2.1) p_20.2.2.2
      have v9 := p_20.1 _ _ _ o_1v0
      have hml := mwQ_lt o_1G (mM σ)
      obtain ⟨o_5x, o_5H, o_5G, o_5Y, o_51, o_52, o_5P, o_5V⟩ := id (og9)
      have o_5n3 := o_5G.n3
      have o_5n6 := o_5G.n6
      have o_5k := o_5G.k
      obtain ⟨o_5h0, ⟨o_5fl, o_5hl, o_5lw⟩, ⟨o_5fs, o_5hs, o_5sw⟩, ⟨o_5fg, o_5hg, o_5gw⟩, ⟨o_5fr, o_5hr, o_5rw⟩, o_5ru⟩ := id o_5H
      obtain ⟨o_5n, o_5nl, o_5y0, o_5k6, -, -, -⟩ := id o_5Y
      obtain ⟨⟨o_5ws, o_5mp, o_5mw, o_5v0⟩, -⟩ := id o_5V
      have o_5p0 := o_5P.1
      have o_5p60 := o_5P.2.2.1
      have o_5a0 := o_51.1
      have o_5b0 := o_52.1
      refine lv_aload_n hx hb dX7_mostWatched_23 rfl (lv_at hl 0 rfl) ?_
      refine fs_get E hP (k := 0) (v := .ref (fa g 232)) 5 fc7 o_5x (by omega) (by decide) (wm wl_2 (i := 6) rfl) rfl dX7_mostWatched_24 ?_
      refine fs_getN E hP (k := 232) (v := .int (nI (mwQ σ (mM σ)).2)) 3 fc5 v9 (by omega) (by decide) (j := 20) rfl rfl dX7_mostWatched_27 ?_
      refine lv_if_ne (tgt := 36) hx hb dX7_mostWatched_30 (by decide) (fun c_30 => ?_) (fun c_30 => ?_)
      · rw [fz_eqN (by omega)] at c_30
        refine lv_iload_n hx hb dX7_mostWatched_36 rfl (lv_at hl 1 rfl) ?_
        refine lv_if_ne (tgt := 50) hx hb dX7_mostWatched_37 (by decide) (fun c_37 => ?_) (fun c_37 => ?_)
        · refine lv_aload_n hx hb dX7_mostWatched_50 rfl (lv_at hl 0 rfl) ?_
          refine fs_get E hP (k := 0) (v := .ref (fa g 232)) 5 fc7 o_5x (by omega) (by decide) (wm wl_2 (i := 6) rfl) rfl dX7_mostWatched_51 ?_
          refine fs_getN E hP (k := 232) (v := .int (nI (mwQ σ (mM σ)).2)) 3 fc5 v9 (by omega) (by decide) (j := 20) rfl rfl dX7_mostWatched_54 ?_
          refine fs_iret E hr hlk hP hS dX7_mostWatched_57 ?_
          refine ⟨?_, (OGx.atm og9 hsv p_20.1 p_20.2.2.1), (show fSame 0 239 _ _ from (fSame.tr2 fSame.rf p_20.2.2.2 (by omega) (by omega)))⟩
          rw [if_pos (Or.inr c_6), mwR, if_neg c_30, if_neg c_37]
        · refine lv_aload_n hx hb dX7_mostWatched_40 rfl (lv_at hl 0 rfl) ?_
          refine fs_get E hP (k := 0) (v := .ref (fa g 232)) 5 fc7 o_5x (by omega) (by decide) (wm wl_2 (i := 6) rfl) rfl dX7_mostWatched_41 ?_
          refine fs_getN E hP (k := 232) (v := .int (nI (mwQ σ (mM σ)).1)) 2 fc5 v9 (by omega) (by decide) (j := 19) rfl rfl dX7_mostWatched_44 ?_
          refine lv_goto (tgt := 57) hx hb dX7_mostWatched_47 (by decide) ?_
          refine fs_iret E hr hlk hP hS dX7_mostWatched_57 ?_
          refine ⟨?_, (OGx.atm og9 hsv p_20.1 p_20.2.2.1), (show fSame 0 239 _ _ from (fSame.tr2 fSame.rf p_20.2.2.2 (by omega) (by omega)))⟩
          rw [if_pos (Or.inr c_6), mwR, if_neg c_30, if_pos c_37]
      · rw [fz_eqN (by omega)] at c_30
        refine lv_bipush (v := (-6)) hx hb dX7_mostWatched_33 (by decide) ?_
        refine fs_iret E hr hlk hP hS dX7_mostWatched_35 ?_
        refine ⟨?_, (OGx.atm og9 hsv p_20.1 p_20.2.2.1), (show fSame 0 239 _ _ from (fSame.tr2 fSame.rf p_20.2.2.2 (by omega) (by omega)))⟩
        rw [if_pos (Or.inr c_6), mwR, if_pos c_30]
    · refine lv_bipush (v := (-2)) hx hb dX7_mostWatched_9 (by decide) ?_
      refine fs_iret E hr hlk hP hS dX7_mostWatched_11 ?_
      refine ⟨?_, hO, fSame.rf⟩
      rw [if_neg (fun z => z.elim c_1 c_6)]
