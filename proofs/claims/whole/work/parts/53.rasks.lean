/-- the reference shows the same state as the class -/
def RS (u1 : Bool) (s1 : Nat → Int32) (u2 : Bool) (s2 : Nat → Int32) (F : Nat → Nat → Int32) : Prop := F 3 0 = (if u1 = true then nI 1 else nI 0) ∧ F 3 1 = (if u2 = true then nI 1 else nI 0) ∧ (u1 = true → ∀ j, j < 121 → F 2 j = s1 j) ∧ (u2 = true → ∀ j, j < 121 → F 2 (121 + j) = s2 j)
def RP (t : Nat → Nat) (len : Nat) (z : Nat → Int32) (F : Nat → Nat → Int32) : Prop := z 1 = nI len ∧ len ≤ 60 ∧ ∀ i, i < len → F 4 i = nI (t i)
def RFAt (g : fG) (ct : Nat → va_E) (σ : Nat → Int32) (k : Nat) (hs : Nat → Nat → Int32) (u1 : Bool) (s1 : Nat → Int32) (u2 : Bool) (s2 : Nat → Int32) (t : Nat → Nat) (len : Nat) : Prop :=
  ∃ z F, MA g ct z F ∧ SR σ F ∧ RH k hs z F ∧ RS u1 s1 u2 s2 F ∧ RP t len z F
theorem RFAt.kk {g : fG} {ct1 : Nat → va_E} {σ : Nat → Int32} {k : Nat} {hs : Nat → Nat → Int32} {u1 u2 : Bool} {s1 s2 : Nat → Int32} {t : Nat → Nat} {len : Nat} {z z1 : Nat → Int32} {F F1 : Nat → Nat → Int32} (hT : SR σ F) (hH : RH k hs z F) (hS : RS u1 s1 u2 s2 F) (hQ : RP t len z F) (M : MA g ct1 z1 F1) (K : KK z F z1 F1) : RFAt g ct1 σ k hs u1 s1 u2 s2 t len := by
  obtain ⟨⟨k0, k1⟩, f0, f1, f2, f3, f4⟩ := K
  refine ⟨z1, F1, M, fun i hi => by rw [f0]; exact hT i hi, ⟨by rw [k0]; exact hH.1, hH.2.1, fun i j hi hj => by rw [f1]; exact hH.2.2 i j hi hj⟩, ⟨by rw [f3]; exact hS.1, by rw [f3]; exact hS.2.1, fun h j hj => by rw [f2]; exact hS.2.2.1 h j hj, fun h j hj => by rw [f2]; exact hS.2.2.2 h j hj⟩, ⟨by rw [k1]; exact hQ.1, hQ.2.1, fun i hi => by rw [f4]; exact hQ.2.2 i hi⟩⟩
theorem LKn_if {σ : Nat → Int32} {r : Nat} : (if bI (hdr σ (lkf σ) r = true) = 0 then nI 0 else nI 1) = bI (hdr σ (lkf σ) r = true) := bI_01

set_option maxRecDepth 100000 in
set_option maxHeartbeats 4000000 in
theorem c_X8_person (l : Launch) (g : fG) (N : Nat) (ct : Nat → va_E) (σ : Nat → Int32) (k : Nat) (hs : Nat → Nat → Int32) (u1 : Bool) (s1 : Nat → Int32) (u2 : Bool) (s2 : Nat → Int32) (t : Nat → Nat) (len : Nat) (hN : 249 ≤ N) (hG : Good σ) (hR : RFAt g ct σ k hs u1 s1 u2 s2 t len) (x y : Int32) : Met l yX8_person (wsU yX8_person cX8_person 3 (some .int)) rX8_person (fPre g N ct [.ref (fa g 239), .int x, .int y]) (fQi g N (fun r ct1 => r = (if hbx σ x then psF σ x.toNatClampNeg y else -1) ∧ RFAt g ct1 σ k hs u1 s1 u2 s2 t len ∧ fSame 239 249 ct ct1)) 0 0 (fB g) := by
  refine fs_start (own := RX8) (lv0 := [(0, .ref (fa g 239)), (1, .int x), (2, .int y)]) (by decide) rfl (Nat.le_of_ble_eq_true rfl) rfl ?_
  intro p e s m args below meth c ls E hr hlk hnm hP hl hS
  have hx := E.1.1
  have hb := E.1.2.1
  obtain ⟨z, F, hM, hT, hH, hS9, hQ⟩ := id hR
  have m_1o : ct 239 = .inr (8, [.ref (fa g 240), .ref (fa g 241), .int (z 0), .ref (fa g 242), .ref (fa g 243), .ref (fa g 244), .int (z 1), .ref (fa g 245), .int (z 2), .ref (fa g 246), .ref (fa g 247), .ref (fa g 248), .int (z 3), .int (z 4), .int (z 5), .int (z 6), .int (z 7), .int (z 8), .int (z 9)]) := (hM).1
  have m_1r0 : ct 240 = .inl (fcI g, 121, .inl (F 0)) := (hM).2.1
  have m_1r1 : ct 241 = .inl (fcI g, 726, .inl (F 1)) := (hM).2.2.1
  have m_1r2 : ct 242 = .inl (fcI g, 242, .inl (F 2)) := (hM).2.2.2.1
  have m_1r3 : ct 243 = .inl (fcI g, 2, .inl (F 3)) := (hM).2.2.2.2.1
  have m_1r4 : ct 244 = .inl (fcI g, 60, .inl (F 4)) := (hM).2.2.2.2.2.1
  have m_1r5 : ct 245 = .inl (fcI g, 6, .inl (F 5)) := (hM).2.2.2.2.2.2.1
  have m_1r6 : ct 246 = .inl (fcI g, 36, .inl (F 6)) := (hM).2.2.2.2.2.2.2.1
  have m_1r7 : ct 247 = .inl (fcI g, 20, .inl (F 7)) := (hM).2.2.2.2.2.2.2.2.1
  have m_1r8 : ct 248 = .inl (fcI g, 20, .inl (F 8)) := (hM).2.2.2.2.2.2.2.2.2
  have hn3 := hG.n3
  have hn6 := hG.n6
  have hk20 := hG.k
  refine lv_aload_n hx hb dX8_person_0 rfl (lv_at hl 0 rfl) ?_
  refine lv_iload_n hx hb dX8_person_1 rfl (lv_at hl 1 rfl) ?_
  refine fs_pi (va_runV (As := [.int x]) (rest := []) E.1 (c_X8_isBox l g N ct z F σ (by omega) hG hM hT x) (lk_RX8_57 E.1.2.2.2.2 ⟨Nat.le_of_ble_eq_true rfl, Nat.le_of_ble_eq_true rfl⟩) (fpreV E hP hS fc8 m_1o (by omega)) rfl rfl hl.1 rfl (lv_room (Nat.le_of_ble_eq_true rfl)) dX8_person_2 ⟨Nat.zero_le _, Nat.zero_le _⟩) hS (fun r_2 locs p_2 hS => ?_)
  refine lv_if_ne (tgt := 10) hx hb dX8_person_5 (by decide) (fun c_5 => ?_) (fun c_5 => ?_)
  · have c_5 := (fb_1 p_2).mp c_5
    obtain ⟨p0, hp0, rfl⟩ := fex c_5.1 c_5.2
    refine lv_iload_n hx hb dX8_person_10 rfl (lv_at hl 2 rfl) ?_
    rcases Decidable.em (y = nI 0) with k_11_0 | k_11_0
    · refine fs_vi k_11_0 ?_
      refine lv_tableIn (off := 37) (tgt := 48) hx hb dX8_person_11 (by decide) (by decide) rfl (by decide) ?_
      refine lv_aload_n hx hb dX8_person_48 rfl (lv_at hl 0 rfl) ?_
      refine fs_get E hP (k := 239) (v := .ref (fa g 240)) 0 fc8 m_1o (by omega) (by decide) (wm wl_5 (i := 0) rfl) rfl dX8_person_49 ?_
      refine lv_iconst (v := (nI 3)) hx hb dX8_person_52 (by decide) ?_
      refine lv_iload_n hx hb dX8_person_53 rfl (lv_at hl 1 rfl) ?_
      refine lv_iadd hx hb dX8_person_54 ?_
      refine fs_vi (y := nI (3 + p0)) (nI_add _ _) ?_
      refine fs_iald E hP (k := 240) m_1r0 (by omega) (vp_in_nI (by omega) (by omega)) dX8_person_55 ?_
      refine fs_vi (y := (F 0) (3 + p0)) (congrArg (F 0) (nI_clamp (by omega))) ?_
      refine fs_vi (y := (nI (lkf σ p0))) ((hT _ (by omega)).trans (hG.2.2.1 p0 hp0).1) ?_
      refine fs_iret E hr hlk hP hS dX8_person_56 ?_
      rw [nI_cl (show p0 < 1000000 by omega)]
      refine ⟨?_, hR, fSame.rf⟩
      rw [if_pos c_5, psF, if_pos k_11_0]
    rcases Decidable.em (y = nI 1) with k_11_1 | k_11_1
    · refine fs_vi k_11_1 ?_
      refine lv_tableIn (off := 46) (tgt := 57) hx hb dX8_person_11 (by decide) (by decide) rfl (by decide) ?_
      refine lv_aload_n hx hb dX8_person_57 rfl (lv_at hl 0 rfl) ?_
      refine fs_get E hP (k := 239) (v := .ref (fa g 240)) 0 fc8 m_1o (by omega) (by decide) (wm wl_5 (i := 0) rfl) rfl dX8_person_58 ?_
      refine lv_bipush (v := (nI 9)) hx hb dX8_person_61 (by decide) ?_
      refine lv_iload_n hx hb dX8_person_63 rfl (lv_at hl 1 rfl) ?_
      refine lv_iadd hx hb dX8_person_64 ?_
      refine fs_vi (y := nI (9 + p0)) (nI_add _ _) ?_
      refine fs_iald E hP (k := 240) m_1r0 (by omega) (vp_in_nI (by omega) (by omega)) dX8_person_65 ?_
      refine fs_vi (y := (F 0) (9 + p0)) (congrArg (F 0) (nI_clamp (by omega))) ?_
      refine fs_vi (y := (σ (9 + p0))) (hT _ (by omega)) ?_
      refine lv_sipush (v := (nI 1000)) hx hb dX8_person_66 (by decide) ?_
      refine lv_iadd hx hb dX8_person_69 ?_
      refine fs_vi (y := (nI 1000 + σ (9 + p0))) (Int32.add_comm _ _) ?_
      refine fs_iret E hr hlk hP hS dX8_person_70 ?_
      rw [nI_cl (show p0 < 1000000 by omega)]
      refine ⟨?_, hR, fSame.rf⟩
      rw [if_pos c_5, psF, if_neg k_11_0, if_pos k_11_1]
    rcases Decidable.em (y = nI 2) with k_11_2 | k_11_2
    · refine fs_vi k_11_2 ?_
      refine lv_tableIn (off := 60) (tgt := 71) hx hb dX8_person_11 (by decide) (by decide) rfl (by decide) ?_
      refine lv_aload_n hx hb dX8_person_71 rfl (lv_at hl 0 rfl) ?_
      refine fs_get E hP (k := 239) (v := .ref (fa g 240)) 0 fc8 m_1o (by omega) (by decide) (wm wl_5 (i := 0) rfl) rfl dX8_person_72 ?_
      refine lv_bipush (v := (nI 15)) hx hb dX8_person_75 (by decide) ?_
      refine lv_iload_n hx hb dX8_person_77 rfl (lv_at hl 1 rfl) ?_
      refine lv_iadd hx hb dX8_person_78 ?_
      refine fs_vi (y := nI (15 + p0)) (nI_add _ _) ?_
      refine fs_iald E hP (k := 240) m_1r0 (by omega) (vp_in_nI (by omega) (by omega)) dX8_person_79 ?_
      refine fs_vi (y := (F 0) (15 + p0)) (congrArg (F 0) (nI_clamp (by omega))) ?_
      refine fs_vi (y := (σ (15 + p0))) (hT _ (by omega)) ?_
      refine fs_iret E hr hlk hP hS dX8_person_80 ?_
      rw [nI_cl (show p0 < 1000000 by omega)]
      refine ⟨?_, hR, fSame.rf⟩
      rw [if_pos c_5, psF, if_neg k_11_0, if_neg k_11_1, if_pos k_11_2]
    rcases Decidable.em (y = nI 3) with k_11_3 | k_11_3
    · refine fs_vi k_11_3 ?_
      refine lv_tableIn (off := 70) (tgt := 81) hx hb dX8_person_11 (by decide) (by decide) rfl (by decide) ?_
      refine lv_aload_n hx hb dX8_person_81 rfl (lv_at hl 0 rfl) ?_
      refine lv_iload_n hx hb dX8_person_82 rfl (lv_at hl 1 rfl) ?_
      refine lv_iconst (v := (nI 0)) hx hb dX8_person_83 (by decide) ?_
      refine fs_i (va_runV (As := [.int (nI p0), .int (nI 0)]) (rest := []) E.1 (c_X8_told l g N ct z F σ (by omega) hG hM hT p0 false (by omega)) (lk_RX8_162 E.1.2.2.2.2 ⟨Nat.le_of_ble_eq_true rfl, Nat.le_of_ble_eq_true rfl⟩) (fpreV E hP hS fc8 m_1o (by omega)) rfl rfl hl.1 rfl (lv_room (Nat.le_of_ble_eq_true rfl)) dX8_person_84 ⟨Nat.zero_le _, Nat.zero_le _⟩) hS (fun r_84 ct_2 H locs p_84 hP hS => ?_)
      refine fs_vi (y := (nI (cN (fun i => decide (rk σ i 0 = p0) && (!false || hdr σ (lkf σ) i)) (nT σ)))) p_84.1 ?_
      obtain ⟨z_3, F_4, M_5, K_6, S_7⟩ := p_84.2
      have T_8 := KK.sr K_6 hT
      have m_9o : ct_2 239 = .inr (8, [.ref (fa g 240), .ref (fa g 241), .int (z_3 0), .ref (fa g 242), .ref (fa g 243), .ref (fa g 244), .int (z_3 1), .ref (fa g 245), .int (z_3 2), .ref (fa g 246), .ref (fa g 247), .ref (fa g 248), .int (z_3 3), .int (z_3 4), .int (z_3 5), .int (z_3 6), .int (z_3 7), .int (z_3 8), .int (z_3 9)]) := (M_5).1
      have m_9r0 : ct_2 240 = .inl (fcI g, 121, .inl (F_4 0)) := (M_5).2.1
      have m_9r1 : ct_2 241 = .inl (fcI g, 726, .inl (F_4 1)) := (M_5).2.2.1
      have m_9r2 : ct_2 242 = .inl (fcI g, 242, .inl (F_4 2)) := (M_5).2.2.2.1
      have m_9r3 : ct_2 243 = .inl (fcI g, 2, .inl (F_4 3)) := (M_5).2.2.2.2.1
      have m_9r4 : ct_2 244 = .inl (fcI g, 60, .inl (F_4 4)) := (M_5).2.2.2.2.2.1
      have m_9r5 : ct_2 245 = .inl (fcI g, 6, .inl (F_4 5)) := (M_5).2.2.2.2.2.2.1
      have m_9r6 : ct_2 246 = .inl (fcI g, 36, .inl (F_4 6)) := (M_5).2.2.2.2.2.2.2.1
      have m_9r7 : ct_2 247 = .inl (fcI g, 20, .inl (F_4 7)) := (M_5).2.2.2.2.2.2.2.2.1
      have m_9r8 : ct_2 248 = .inl (fcI g, 20, .inl (F_4 8)) := (M_5).2.2.2.2.2.2.2.2.2
      refine fs_vi (y := (nI (cN (fun i => decide (rk σ i 0 = p0)) (nT σ)))) (congrArg nI (cN_cong (fun i _ => by simp))) ?_
      refine fs_iret E hr hlk hP hS dX8_person_87 ?_
      rw [nI_cl (show p0 < 1000000 by omega)]
      refine ⟨?_, RFAt.kk hT hH hS9 hQ M_5 K_6, (show fSame 239 249 _ _ from (fSame.tr2 fSame.rf S_7 (by omega) (by omega)))⟩
      rw [if_pos c_5, psF, if_neg k_11_0, if_neg k_11_1, if_neg k_11_2, if_pos k_11_3]
    rcases Decidable.em (y = nI 4) with k_11_4 | k_11_4
    · refine fs_vi k_11_4 ?_
      refine lv_tableIn (off := 77) (tgt := 88) hx hb dX8_person_11 (by decide) (by decide) rfl (by decide) ?_
      refine lv_aload_n hx hb dX8_person_88 rfl (lv_at hl 0 rfl) ?_
      refine lv_iload_n hx hb dX8_person_89 rfl (lv_at hl 1 rfl) ?_
      refine lv_iconst (v := (nI 1)) hx hb dX8_person_90 (by decide) ?_
      refine fs_i (va_runV (As := [.int (nI p0), .int (nI 1)]) (rest := []) E.1 (c_X8_told l g N ct z F σ (by omega) hG hM hT p0 true (by omega)) (lk_RX8_162 E.1.2.2.2.2 ⟨Nat.le_of_ble_eq_true rfl, Nat.le_of_ble_eq_true rfl⟩) (fpreV E hP hS fc8 m_1o (by omega)) rfl rfl hl.1 rfl (lv_room (Nat.le_of_ble_eq_true rfl)) dX8_person_91 ⟨Nat.zero_le _, Nat.zero_le _⟩) hS (fun r_91 ct_10 H locs p_91 hP hS => ?_)
      refine fs_vi (y := (nI (cN (fun i => decide (rk σ i 0 = p0) && (!true || hdr σ (lkf σ) i)) (nT σ)))) p_91.1 ?_
      obtain ⟨z_11, F_12, M_13, K_14, S_15⟩ := p_91.2
      have T_16 := KK.sr K_14 hT
      have m_17o : ct_10 239 = .inr (8, [.ref (fa g 240), .ref (fa g 241), .int (z_11 0), .ref (fa g 242), .ref (fa g 243), .ref (fa g 244), .int (z_11 1), .ref (fa g 245), .int (z_11 2), .ref (fa g 246), .ref (fa g 247), .ref (fa g 248), .int (z_11 3), .int (z_11 4), .int (z_11 5), .int (z_11 6), .int (z_11 7), .int (z_11 8), .int (z_11 9)]) := (M_13).1
      have m_17r0 : ct_10 240 = .inl (fcI g, 121, .inl (F_12 0)) := (M_13).2.1
      have m_17r1 : ct_10 241 = .inl (fcI g, 726, .inl (F_12 1)) := (M_13).2.2.1
      have m_17r2 : ct_10 242 = .inl (fcI g, 242, .inl (F_12 2)) := (M_13).2.2.2.1
      have m_17r3 : ct_10 243 = .inl (fcI g, 2, .inl (F_12 3)) := (M_13).2.2.2.2.1
      have m_17r4 : ct_10 244 = .inl (fcI g, 60, .inl (F_12 4)) := (M_13).2.2.2.2.2.1
      have m_17r5 : ct_10 245 = .inl (fcI g, 6, .inl (F_12 5)) := (M_13).2.2.2.2.2.2.1
      have m_17r6 : ct_10 246 = .inl (fcI g, 36, .inl (F_12 6)) := (M_13).2.2.2.2.2.2.2.1
      have m_17r7 : ct_10 247 = .inl (fcI g, 20, .inl (F_12 7)) := (M_13).2.2.2.2.2.2.2.2.1
      have m_17r8 : ct_10 248 = .inl (fcI g, 20, .inl (F_12 8)) := (M_13).2.2.2.2.2.2.2.2.2
      refine fs_vi (y := (nI (cN (fun i => decide (rk σ i 0 = p0) && hdr σ (lkf σ) i) (nT σ)))) (congrArg nI (cN_cong (fun i _ => by simp))) ?_
      refine fs_iret E hr hlk hP hS dX8_person_94 ?_
      rw [nI_cl (show p0 < 1000000 by omega)]
      refine ⟨?_, RFAt.kk hT hH hS9 hQ M_13 K_14, (show fSame 239 249 _ _ from (fSame.tr2 fSame.rf S_15 (by omega) (by omega)))⟩
      rw [if_pos c_5, psF, if_neg k_11_0, if_neg k_11_1, if_neg k_11_2, if_neg k_11_3, if_pos k_11_4]
    rcases Decidable.em (y = nI 5) with k_11_5 | k_11_5
    · refine fs_vi k_11_5 ?_
      refine lv_tableIn (off := 84) (tgt := 95) hx hb dX8_person_11 (by decide) (by decide) rfl (by decide) ?_
      refine lv_aload_n hx hb dX8_person_95 rfl (lv_at hl 0 rfl) ?_
      refine fs_v (va_runV (As := []) (rest := []) E.1 (c_X8_takeTruth l g N ct z F σ (by omega) hG hM hT) (lk_RX8_68 E.1.2.2.2.2 ⟨Nat.le_of_ble_eq_true rfl, Nat.le_of_ble_eq_true rfl⟩) (fpreV E hP hS fc8 m_1o (by omega)) rfl rfl hl.1 rfl (lv_room (Nat.le_of_ble_eq_true rfl)) dX8_person_96 ⟨Nat.zero_le _, Nat.zero_le _⟩) hS (fun ct_18 H locs p_96 hP hS => ?_)
      obtain ⟨fw_19, ew_20, hw_21⟩ := p_96
      have M_23 := MA.f5 hM ew_20
      have m_25o : ct_18 239 = .inr (8, [.ref (fa g 240), .ref (fa g 241), .int (z 0), .ref (fa g 242), .ref (fa g 243), .ref (fa g 244), .int (z 1), .ref (fa g 245), .int (z 2), .ref (fa g 246), .ref (fa g 247), .ref (fa g 248), .int (z 3), .int (z 4), .int (z 5), .int (z 6), .int (z 7), .int (z 8), .int (z 9)]) := (M_23).1
      have m_25r0 : ct_18 240 = .inl (fcI g, 121, .inl (F 0)) := (M_23).2.1
      have m_25r1 : ct_18 241 = .inl (fcI g, 726, .inl (F 1)) := (M_23).2.2.1
      have m_25r2 : ct_18 242 = .inl (fcI g, 242, .inl (F 2)) := (M_23).2.2.2.1
      have m_25r3 : ct_18 243 = .inl (fcI g, 2, .inl (F 3)) := (M_23).2.2.2.2.1
      have m_25r4 : ct_18 244 = .inl (fcI g, 60, .inl (F 4)) := (M_23).2.2.2.2.2.1
      have m_25r5 : ct_18 245 = .inl (fcI g, 6, .inl fw_19) := (M_23).2.2.2.2.2.2.1
      have m_25r6 : ct_18 246 = .inl (fcI g, 36, .inl (F 6)) := (M_23).2.2.2.2.2.2.2.1
      have m_25r7 : ct_18 247 = .inl (fcI g, 20, .inl (F 7)) := (M_23).2.2.2.2.2.2.2.2.1
      have m_25r8 : ct_18 248 = .inl (fcI g, 20, .inl (F 8)) := (M_23).2.2.2.2.2.2.2.2.2
      have T_24 : SR σ (uF F 5 fw_19) := fun i hi => hT i hi
      have hW_22 : WR σ (lkf σ) (uF F 5 fw_19) := fun p hp => hw_21 p hp
      refine lv_aload_n hx hb dX8_person_99 rfl (lv_at hl 0 rfl) ?_
      refine lv_iload_n hx hb dX8_person_100 rfl (lv_at hl 1 rfl) ?_
      refine fs_pi (va_runV (As := [.int (nI p0)]) (rest := []) E.1 (c_X8_lookers l g N ct_18 z (uF F 5 fw_19) σ (by omega) hG M_23 T_24 (lkf σ) hG.wok hW_22 p0 (by omega)) (lk_RX8_61 E.1.2.2.2.2 ⟨Nat.le_of_ble_eq_true rfl, Nat.le_of_ble_eq_true rfl⟩) (fpreV E hP hS fc8 m_25o (by omega)) rfl rfl hl.1 rfl (lv_room (Nat.le_of_ble_eq_true rfl)) dX8_person_101 ⟨Nat.zero_le _, Nat.zero_le _⟩) hS (fun r_101 locs p_101 hS => ?_)
      refine fs_vi (y := (nI (cN (fun q => decide (lkf σ q = p0)) (nB σ)))) p_101 ?_
      refine fs_iret E hr hlk hP hS dX8_person_104 ?_
      rw [nI_cl (show p0 < 1000000 by omega)]
      refine ⟨?_, RFAt.kk hT hH hS9 hQ M_23 ⟨⟨rfl, rfl⟩, rfl, rfl, rfl, rfl, rfl⟩, (show fSame 239 249 _ _ from (fSame.ap fSame.rf ew_20 (by omega) (by omega)))⟩
      rw [if_pos c_5, psF, if_neg k_11_0, if_neg k_11_1, if_neg k_11_2, if_neg k_11_3, if_neg k_11_4, if_pos k_11_5]
    refine lv_tableOut (tgt := 105) hx hb dX8_person_11 (ftab_0_5 k_11_0 k_11_1 k_11_2 k_11_3 k_11_4 k_11_5) (by decide) ?_
    refine lv_bipush (v := (-2)) hx hb dX8_person_105 (by decide) ?_
    refine fs_iret E hr hlk hP hS dX8_person_107 ?_
    rw [nI_cl (show p0 < 1000000 by omega)]
    refine ⟨?_, hR, fSame.rf⟩
    rw [if_pos c_5, psF, if_neg k_11_0, if_neg k_11_1, if_neg k_11_2, if_neg k_11_3, if_neg k_11_4, if_neg k_11_5]
  · have c_5 := (fb_0 p_2).mp c_5
    refine lv_iconst (v := (-1)) hx hb dX8_person_8 (by decide) ?_
    refine fs_iret E hr hlk hP hS dX8_person_9 ?_
    refine ⟨?_, hR, fSame.rf⟩
    rw [if_neg c_5]

set_option maxRecDepth 100000 in
set_option maxHeartbeats 4000000 in
theorem c_X8_rumour (l : Launch) (g : fG) (N : Nat) (ct : Nat → va_E) (σ : Nat → Int32) (k : Nat) (hs : Nat → Nat → Int32) (u1 : Bool) (s1 : Nat → Int32) (u2 : Bool) (s2 : Nat → Int32) (t : Nat → Nat) (len : Nat) (hN : 249 ≤ N) (hG : Good σ) (hR : RFAt g ct σ k hs u1 s1 u2 s2 t len) (x y : Int32) : Met l yX8_rumour (wsU yX8_rumour cX8_rumour 3 (some .int)) rX8_rumour (fPre g N ct [.ref (fa g 239), .int x, .int y]) (fQi g N (fun r ct1 => r = (if hrx σ x then rmF σ x.toNatClampNeg y else -1) ∧ RFAt g ct1 σ k hs u1 s1 u2 s2 t len ∧ fSame 239 249 ct ct1)) 0 0 (fB g) := by
  refine fs_start (own := RX8) (lv0 := [(0, .ref (fa g 239)), (1, .int x), (2, .int y)]) (by decide) rfl (Nat.le_of_ble_eq_true rfl) rfl ?_
  intro p e s m args below meth c ls E hr hlk hnm hP hl hS
  have hx := E.1.1
  have hb := E.1.2.1
  obtain ⟨z, F, hM, hT, hH, hS9, hQ⟩ := id hR
  have m_1o : ct 239 = .inr (8, [.ref (fa g 240), .ref (fa g 241), .int (z 0), .ref (fa g 242), .ref (fa g 243), .ref (fa g 244), .int (z 1), .ref (fa g 245), .int (z 2), .ref (fa g 246), .ref (fa g 247), .ref (fa g 248), .int (z 3), .int (z 4), .int (z 5), .int (z 6), .int (z 7), .int (z 8), .int (z 9)]) := (hM).1
  have m_1r0 : ct 240 = .inl (fcI g, 121, .inl (F 0)) := (hM).2.1
  have m_1r1 : ct 241 = .inl (fcI g, 726, .inl (F 1)) := (hM).2.2.1
  have m_1r2 : ct 242 = .inl (fcI g, 242, .inl (F 2)) := (hM).2.2.2.1
  have m_1r3 : ct 243 = .inl (fcI g, 2, .inl (F 3)) := (hM).2.2.2.2.1
  have m_1r4 : ct 244 = .inl (fcI g, 60, .inl (F 4)) := (hM).2.2.2.2.2.1
  have m_1r5 : ct 245 = .inl (fcI g, 6, .inl (F 5)) := (hM).2.2.2.2.2.2.1
  have m_1r6 : ct 246 = .inl (fcI g, 36, .inl (F 6)) := (hM).2.2.2.2.2.2.2.1
  have m_1r7 : ct 247 = .inl (fcI g, 20, .inl (F 7)) := (hM).2.2.2.2.2.2.2.2.1
  have m_1r8 : ct 248 = .inl (fcI g, 20, .inl (F 8)) := (hM).2.2.2.2.2.2.2.2.2
  have hn3 := hG.n3
  have hn6 := hG.n6
  have hk20 := hG.k
  refine lv_aload_n hx hb dX8_rumour_0 rfl (lv_at hl 0 rfl) ?_
  refine lv_iload_n hx hb dX8_rumour_1 rfl (lv_at hl 1 rfl) ?_
  refine fs_pi (va_runV (As := [.int x]) (rest := []) E.1 (c_X8_isRumour l g N ct z F σ (by omega) hG hM hT x) (lk_RX8_146 E.1.2.2.2.2 ⟨Nat.le_of_ble_eq_true rfl, Nat.le_of_ble_eq_true rfl⟩) (fpreV E hP hS fc8 m_1o (by omega)) rfl rfl hl.1 rfl (lv_room (Nat.le_of_ble_eq_true rfl)) dX8_rumour_2 ⟨Nat.zero_le _, Nat.zero_le _⟩) hS (fun r_2 locs p_2 hS => ?_)
  refine lv_if_ne (tgt := 10) hx hb dX8_rumour_5 (by decide) (fun c_5 => ?_) (fun c_5 => ?_)
  · have c_5 := (fb_1 p_2).mp c_5
    obtain ⟨p0, hp0, rfl⟩ := fex c_5.1 c_5.2
    refine lv_iload_n hx hb dX8_rumour_10 rfl (lv_at hl 2 rfl) ?_
    rcases Decidable.em (y = nI 0) with k_11_0 | k_11_0
    · refine fs_vi k_11_0 ?_
      refine lv_tableIn (off := 41) (tgt := 52) hx hb dX8_rumour_11 (by decide) (by decide) rfl (by decide) ?_
      subst k_11_0
      refine lv_aload_n hx hb dX8_rumour_52 rfl (lv_at hl 0 rfl) ?_
      refine lv_iload_n hx hb dX8_rumour_53 rfl (lv_at hl 1 rfl) ?_
      refine lv_iload_n hx hb dX8_rumour_54 rfl (lv_at hl 2 rfl) ?_
      refine fs_pi (va_runV (As := [.int (nI p0), .int (nI 0)]) (rest := []) E.1 (c_X8_part l g N ct z F σ (by omega) hG hM hT p0 0 (by omega)) (lk_RX8_53 E.1.2.2.2.2 ⟨Nat.le_of_ble_eq_true rfl, Nat.le_of_ble_eq_true rfl⟩) (fpreV E hP hS fc8 m_1o (by omega)) rfl rfl hl.1 rfl (lv_room (Nat.le_of_ble_eq_true rfl)) dX8_rumour_55 ⟨Nat.zero_le _, Nat.zero_le _⟩) hS (fun r_55 locs p_55 hS => ?_)
      refine fs_vi (y := (nI (rk σ p0 0))) (p_55.trans ((hG.r (by omega)).1 0 (by omega))) ?_
      refine fs_iret E hr hlk hP hS dX8_rumour_58 ?_
      rw [nI_cl (show p0 < 1000000 by omega)]
      refine ⟨?_, hR, fSame.rf⟩
      rw [if_pos c_5, rmF, if_pos rfl]
    rcases Decidable.em (y = nI 1) with k_11_1 | k_11_1
    · refine fs_vi k_11_1 ?_
      refine lv_tableIn (off := 41) (tgt := 52) hx hb dX8_rumour_11 (by decide) (by decide) rfl (by decide) ?_
      subst k_11_1
      refine lv_aload_n hx hb dX8_rumour_52 rfl (lv_at hl 0 rfl) ?_
      refine lv_iload_n hx hb dX8_rumour_53 rfl (lv_at hl 1 rfl) ?_
      refine lv_iload_n hx hb dX8_rumour_54 rfl (lv_at hl 2 rfl) ?_
      refine fs_pi (va_runV (As := [.int (nI p0), .int (nI 1)]) (rest := []) E.1 (c_X8_part l g N ct z F σ (by omega) hG hM hT p0 1 (by omega)) (lk_RX8_53 E.1.2.2.2.2 ⟨Nat.le_of_ble_eq_true rfl, Nat.le_of_ble_eq_true rfl⟩) (fpreV E hP hS fc8 m_1o (by omega)) rfl rfl hl.1 rfl (lv_room (Nat.le_of_ble_eq_true rfl)) dX8_rumour_55 ⟨Nat.zero_le _, Nat.zero_le _⟩) hS (fun r_55 locs p_55 hS => ?_)
      refine fs_vi (y := (nI (rk σ p0 1))) (p_55.trans ((hG.r (by omega)).1 1 (by omega))) ?_
      refine fs_iret E hr hlk hP hS dX8_rumour_58 ?_
      rw [nI_cl (show p0 < 1000000 by omega)]
      refine ⟨?_, hR, fSame.rf⟩
      rw [if_pos c_5, rmF, if_neg k_11_0, if_pos rfl]
    rcases Decidable.em (y = nI 2) with k_11_2 | k_11_2
    · refine fs_vi k_11_2 ?_
      refine lv_tableIn (off := 41) (tgt := 52) hx hb dX8_rumour_11 (by decide) (by decide) rfl (by decide) ?_
      subst k_11_2
      refine lv_aload_n hx hb dX8_rumour_52 rfl (lv_at hl 0 rfl) ?_
      refine lv_iload_n hx hb dX8_rumour_53 rfl (lv_at hl 1 rfl) ?_
      refine lv_iload_n hx hb dX8_rumour_54 rfl (lv_at hl 2 rfl) ?_
      refine fs_pi (va_runV (As := [.int (nI p0), .int (nI 2)]) (rest := []) E.1 (c_X8_part l g N ct z F σ (by omega) hG hM hT p0 2 (by omega)) (lk_RX8_53 E.1.2.2.2.2 ⟨Nat.le_of_ble_eq_true rfl, Nat.le_of_ble_eq_true rfl⟩) (fpreV E hP hS fc8 m_1o (by omega)) rfl rfl hl.1 rfl (lv_room (Nat.le_of_ble_eq_true rfl)) dX8_rumour_55 ⟨Nat.zero_le _, Nat.zero_le _⟩) hS (fun r_55 locs p_55 hS => ?_)
      refine fs_vi (y := (nI (rk σ p0 2))) (p_55.trans ((hG.r (by omega)).1 2 (by omega))) ?_
      refine fs_iret E hr hlk hP hS dX8_rumour_58 ?_
      rw [nI_cl (show p0 < 1000000 by omega)]
      refine ⟨?_, hR, fSame.rf⟩
      rw [if_pos c_5, rmF, if_neg k_11_0, if_neg k_11_1, if_pos rfl]
    rcases Decidable.em (y = nI 3) with k_11_3 | k_11_3
    · refine fs_vi k_11_3 ?_
      refine lv_tableIn (off := 41) (tgt := 52) hx hb dX8_rumour_11 (by decide) (by decide) rfl (by decide) ?_
      subst k_11_3
      refine lv_aload_n hx hb dX8_rumour_52 rfl (lv_at hl 0 rfl) ?_
      refine lv_iload_n hx hb dX8_rumour_53 rfl (lv_at hl 1 rfl) ?_
      refine lv_iload_n hx hb dX8_rumour_54 rfl (lv_at hl 2 rfl) ?_
      refine fs_pi (va_runV (As := [.int (nI p0), .int (nI 3)]) (rest := []) E.1 (c_X8_part l g N ct z F σ (by omega) hG hM hT p0 3 (by omega)) (lk_RX8_53 E.1.2.2.2.2 ⟨Nat.le_of_ble_eq_true rfl, Nat.le_of_ble_eq_true rfl⟩) (fpreV E hP hS fc8 m_1o (by omega)) rfl rfl hl.1 rfl (lv_room (Nat.le_of_ble_eq_true rfl)) dX8_rumour_55 ⟨Nat.zero_le _, Nat.zero_le _⟩) hS (fun r_55 locs p_55 hS => ?_)
      refine fs_vi (y := (nI (rk σ p0 3))) (p_55.trans ((hG.r (by omega)).1 3 (by omega))) ?_
      refine fs_iret E hr hlk hP hS dX8_rumour_58 ?_
      rw [nI_cl (show p0 < 1000000 by omega)]
      refine ⟨?_, hR, fSame.rf⟩
      rw [if_pos c_5, rmF, if_neg k_11_0, if_neg k_11_1, if_neg k_11_2, if_pos rfl]
    rcases Decidable.em (y = nI 4) with k_11_4 | k_11_4
    · refine fs_vi k_11_4 ?_
      refine lv_tableIn (off := 41) (tgt := 52) hx hb dX8_rumour_11 (by decide) (by decide) rfl (by decide) ?_
      subst k_11_4
      refine lv_aload_n hx hb dX8_rumour_52 rfl (lv_at hl 0 rfl) ?_
      refine lv_iload_n hx hb dX8_rumour_53 rfl (lv_at hl 1 rfl) ?_
      refine lv_iload_n hx hb dX8_rumour_54 rfl (lv_at hl 2 rfl) ?_
      refine fs_pi (va_runV (As := [.int (nI p0), .int (nI 4)]) (rest := []) E.1 (c_X8_part l g N ct z F σ (by omega) hG hM hT p0 4 (by omega)) (lk_RX8_53 E.1.2.2.2.2 ⟨Nat.le_of_ble_eq_true rfl, Nat.le_of_ble_eq_true rfl⟩) (fpreV E hP hS fc8 m_1o (by omega)) rfl rfl hl.1 rfl (lv_room (Nat.le_of_ble_eq_true rfl)) dX8_rumour_55 ⟨Nat.zero_le _, Nat.zero_le _⟩) hS (fun r_55 locs p_55 hS => ?_)
      refine fs_vi (y := (nI (rk σ p0 4))) (p_55.trans ((hG.r (by omega)).1 4 (by omega))) ?_
      refine fs_iret E hr hlk hP hS dX8_rumour_58 ?_
      rw [nI_cl (show p0 < 1000000 by omega)]
      refine ⟨?_, hR, fSame.rf⟩
      rw [if_pos c_5, rmF, if_neg k_11_0, if_neg k_11_1, if_neg k_11_2, if_neg k_11_3, if_pos rfl]
    rcases Decidable.em (y = nI 5) with k_11_5 | k_11_5
    · refine fs_vi k_11_5 ?_
      refine lv_tableIn (off := 48) (tgt := 59) hx hb dX8_rumour_11 (by decide) (by decide) rfl (by decide) ?_
      refine lv_aload_n hx hb dX8_rumour_59 rfl (lv_at hl 0 rfl) ?_
      refine lv_iload_n hx hb dX8_rumour_60 rfl (lv_at hl 1 rfl) ?_
      refine fs_i (va_runV (As := [.int (nI p0)]) (rest := []) E.1 (c_X8_isTrue l g N ct z F σ (by omega) hG hM hT p0 (by omega)) (lk_RX8_156 E.1.2.2.2.2 ⟨Nat.le_of_ble_eq_true rfl, Nat.le_of_ble_eq_true rfl⟩) (fpreV E hP hS fc8 m_1o (by omega)) rfl rfl hl.1 rfl (lv_room (Nat.le_of_ble_eq_true rfl)) dX8_rumour_61 ⟨Nat.zero_le _, Nat.zero_le _⟩) hS (fun r_61 ct_2 H locs p_61 hP hS => ?_)
      have p_61t := p_61.1
      obtain ⟨fw_3, ew_4, hw_5⟩ := p_61.2
      have M_7 := MA.f5 hM ew_4
      have m_9o : ct_2 239 = .inr (8, [.ref (fa g 240), .ref (fa g 241), .int (z 0), .ref (fa g 242), .ref (fa g 243), .ref (fa g 244), .int (z 1), .ref (fa g 245), .int (z 2), .ref (fa g 246), .ref (fa g 247), .ref (fa g 248), .int (z 3), .int (z 4), .int (z 5), .int (z 6), .int (z 7), .int (z 8), .int (z 9)]) := (M_7).1
      have m_9r0 : ct_2 240 = .inl (fcI g, 121, .inl (F 0)) := (M_7).2.1
      have m_9r1 : ct_2 241 = .inl (fcI g, 726, .inl (F 1)) := (M_7).2.2.1
      have m_9r2 : ct_2 242 = .inl (fcI g, 242, .inl (F 2)) := (M_7).2.2.2.1
      have m_9r3 : ct_2 243 = .inl (fcI g, 2, .inl (F 3)) := (M_7).2.2.2.2.1
      have m_9r4 : ct_2 244 = .inl (fcI g, 60, .inl (F 4)) := (M_7).2.2.2.2.2.1
      have m_9r5 : ct_2 245 = .inl (fcI g, 6, .inl fw_3) := (M_7).2.2.2.2.2.2.1
      have m_9r6 : ct_2 246 = .inl (fcI g, 36, .inl (F 6)) := (M_7).2.2.2.2.2.2.2.1
      have m_9r7 : ct_2 247 = .inl (fcI g, 20, .inl (F 7)) := (M_7).2.2.2.2.2.2.2.2.1
      have m_9r8 : ct_2 248 = .inl (fcI g, 20, .inl (F 8)) := (M_7).2.2.2.2.2.2.2.2.2
      have T_8 : SR σ (uF F 5 fw_3) := fun i hi => hT i hi
      have hW_6 : WR σ (lkf σ) (uF F 5 fw_3) := fun p hp => hw_5 p hp
      refine lv_if_eq (tgt := 71) hx hb dX8_rumour_64 (by decide) (fun c_64 => ?_) (fun c_64 => ?_)
      · have c_64 := (fb_0 p_61.1).mp c_64
        refine lv_iconst (v := (nI 0)) hx hb dX8_rumour_71 (by decide) ?_
        refine fs_iret E hr hlk hP hS dX8_rumour_72 ?_
        rw [nI_cl (show p0 < 1000000 by omega)]
        refine ⟨?_, RFAt.kk hT hH hS9 hQ M_7 ⟨⟨rfl, rfl⟩, rfl, rfl, rfl, rfl, rfl⟩, (show fSame 239 249 _ _ from (fSame.ap fSame.rf ew_4 (by omega) (by omega)))⟩
        rw [if_pos c_5, rmF, if_neg k_11_0, if_neg k_11_1, if_neg k_11_2, if_neg k_11_3, if_neg k_11_4, if_pos k_11_5]
        exact bI_f c_64
      · have c_64 := (fb_1 p_61.1).mp c_64
        refine lv_iconst (v := (nI 1)) hx hb dX8_rumour_67 (by decide) ?_
        refine lv_goto (tgt := 72) hx hb dX8_rumour_68 (by decide) ?_
        refine fs_iret E hr hlk hP hS dX8_rumour_72 ?_
        rw [nI_cl (show p0 < 1000000 by omega)]
        refine ⟨?_, RFAt.kk hT hH hS9 hQ M_7 ⟨⟨rfl, rfl⟩, rfl, rfl, rfl, rfl, rfl⟩, (show fSame 239 249 _ _ from (fSame.ap fSame.rf ew_4 (by omega) (by omega)))⟩
        rw [if_pos c_5, rmF, if_neg k_11_0, if_neg k_11_1, if_neg k_11_2, if_neg k_11_3, if_neg k_11_4, if_pos k_11_5]
        exact bI_t c_64
    rcases Decidable.em (y = nI 6) with k_11_6 | k_11_6
    · refine fs_vi k_11_6 ?_
      refine lv_tableIn (off := 62) (tgt := 73) hx hb dX8_rumour_11 (by decide) (by decide) rfl (by decide) ?_
      refine lv_aload_n hx hb dX8_rumour_73 rfl (lv_at hl 0 rfl) ?_
      refine fs_v (va_runV (As := []) (rest := []) E.1 (c_X8_goThrough l g N ct z F σ (by omega) hG hM hT) (lk_RX8_102 E.1.2.2.2.2 ⟨Nat.le_of_ble_eq_true rfl, Nat.le_of_ble_eq_true rfl⟩) (fpreV E hP hS fc8 m_1o (by omega)) rfl rfl hl.1 rfl (lv_room (Nat.le_of_ble_eq_true rfl)) dX8_rumour_74 ⟨Nat.zero_le _, Nat.zero_le _⟩) hS (fun ct_10 H locs p_74 hP hS => ?_)
      obtain ⟨z_11, F_12, M_13, K_14, C_15, S_16⟩ := p_74
      have T_17 := KK.sr K_14 hT
      have m_18o : ct_10 239 = .inr (8, [.ref (fa g 240), .ref (fa g 241), .int (z_11 0), .ref (fa g 242), .ref (fa g 243), .ref (fa g 244), .int (z_11 1), .ref (fa g 245), .int (z_11 2), .ref (fa g 246), .ref (fa g 247), .ref (fa g 248), .int (z_11 3), .int (z_11 4), .int (z_11 5), .int (z_11 6), .int (z_11 7), .int (z_11 8), .int (z_11 9)]) := (M_13).1
      have m_18r0 : ct_10 240 = .inl (fcI g, 121, .inl (F_12 0)) := (M_13).2.1
      have m_18r1 : ct_10 241 = .inl (fcI g, 726, .inl (F_12 1)) := (M_13).2.2.1
      have m_18r2 : ct_10 242 = .inl (fcI g, 242, .inl (F_12 2)) := (M_13).2.2.2.1
      have m_18r3 : ct_10 243 = .inl (fcI g, 2, .inl (F_12 3)) := (M_13).2.2.2.2.1
      have m_18r4 : ct_10 244 = .inl (fcI g, 60, .inl (F_12 4)) := (M_13).2.2.2.2.2.1
      have m_18r5 : ct_10 245 = .inl (fcI g, 6, .inl (F_12 5)) := (M_13).2.2.2.2.2.2.1
      have m_18r6 : ct_10 246 = .inl (fcI g, 36, .inl (F_12 6)) := (M_13).2.2.2.2.2.2.2.1
      have m_18r7 : ct_10 247 = .inl (fcI g, 20, .inl (F_12 7)) := (M_13).2.2.2.2.2.2.2.2.1
      have m_18r8 : ct_10 248 = .inl (fcI g, 20, .inl (F_12 8)) := (M_13).2.2.2.2.2.2.2.2.2
      refine lv_aload_n hx hb dX8_rumour_77 rfl (lv_at hl 0 rfl) ?_
      refine fs_get E hP (k := 239) (v := .ref (fa g 247)) 10 fc8 m_18o (by omega) (by decide) (wm wl_5 (i := 7) rfl) rfl dX8_rumour_78 ?_
      refine lv_iload_n hx hb dX8_rumour_81 rfl (lv_at hl 1 rfl) ?_
      refine fs_iald E hP (k := 247) m_18r7 (by omega) (vp_in_nI (by omega) (by omega)) dX8_rumour_82 ?_
      refine fs_vi (y := (F_12 7) p0) (congrArg (F_12 7) (nI_clamp (by omega))) ?_
      refine fs_vi (y := (nI (HDn σ p0))) (C_15.2.2.1 p0 hp0) ?_
      refine fs_iret E hr hlk hP hS dX8_rumour_83 ?_
      rw [nI_cl (show p0 < 1000000 by omega)]
      refine ⟨?_, RFAt.kk hT hH hS9 hQ M_13 K_14, (show fSame 239 249 _ _ from (fSame.tr2 fSame.rf S_16 (by omega) (by omega)))⟩
      rw [if_pos c_5, rmF, if_neg k_11_0, if_neg k_11_1, if_neg k_11_2, if_neg k_11_3, if_neg k_11_4, if_neg k_11_5, if_pos k_11_6]
    refine lv_tableOut (tgt := 84) hx hb dX8_rumour_11 (ftab_0_6 k_11_0 k_11_1 k_11_2 k_11_3 k_11_4 k_11_5 k_11_6) (by decide) ?_
    refine lv_bipush (v := (-2)) hx hb dX8_rumour_84 (by decide) ?_
    refine fs_iret E hr hlk hP hS dX8_rumour_86 ?_
    rw [nI_cl (show p0 < 1000000 by omega)]
    refine ⟨?_, hR, fSame.rf⟩
    rw [if_pos c_5, rmF, if_neg k_11_0, if_neg k_11_1, if_neg k_11_2, if_neg k_11_3, if_neg k_11_4, if_neg k_11_5, if_neg k_11_6]
  · have c_5 := (fb_0 p_2).mp c_5
    refine lv_iconst (v := (-1)) hx hb dX8_rumour_8 (by decide) ?_
    refine fs_iret E hr hlk hP hS dX8_rumour_9 ?_
    refine ⟨?_, hR, fSame.rf⟩
    rw [if_neg c_5]

set_option maxRecDepth 100000 in
set_option maxHeartbeats 4000000 in
theorem c_X8_count (l : Launch) (g : fG) (N : Nat) (ct : Nat → va_E) (σ : Nat → Int32) (k : Nat) (hs : Nat → Nat → Int32) (u1 : Bool) (s1 : Nat → Int32) (u2 : Bool) (s2 : Nat → Int32) (t : Nat → Nat) (len : Nat) (hN : 249 ≤ N) (hG : Good σ) (hR : RFAt g ct σ k hs u1 s1 u2 s2 t len) (y : Int32) : Met l yX8_count (wsU yX8_count cX8_count 2 (some .int)) rX8_count (fPre g N ct [.ref (fa g 239), .int y]) (fQi g N (fun r ct1 => r = ctF σ len k y ∧ RFAt g ct1 σ k hs u1 s1 u2 s2 t len ∧ fSame 239 249 ct ct1)) 0 0 (fB g) := by
  refine fs_start (own := RX8) (lv0 := [(0, .ref (fa g 239)), (1, .int y)]) (by decide) rfl (Nat.le_of_ble_eq_true rfl) rfl ?_
  intro p e s m args below meth c ls E hr hlk hnm hP hl hS
  have hx := E.1.1
  have hb := E.1.2.1
  obtain ⟨z, F, hM, hT, hH, hS9, hQ⟩ := id hR
  have m_1o : ct 239 = .inr (8, [.ref (fa g 240), .ref (fa g 241), .int (z 0), .ref (fa g 242), .ref (fa g 243), .ref (fa g 244), .int (z 1), .ref (fa g 245), .int (z 2), .ref (fa g 246), .ref (fa g 247), .ref (fa g 248), .int (z 3), .int (z 4), .int (z 5), .int (z 6), .int (z 7), .int (z 8), .int (z 9)]) := (hM).1
  have m_1r0 : ct 240 = .inl (fcI g, 121, .inl (F 0)) := (hM).2.1
  have m_1r1 : ct 241 = .inl (fcI g, 726, .inl (F 1)) := (hM).2.2.1
  have m_1r2 : ct 242 = .inl (fcI g, 242, .inl (F 2)) := (hM).2.2.2.1
  have m_1r3 : ct 243 = .inl (fcI g, 2, .inl (F 3)) := (hM).2.2.2.2.1
  have m_1r4 : ct 244 = .inl (fcI g, 60, .inl (F 4)) := (hM).2.2.2.2.2.1
  have m_1r5 : ct 245 = .inl (fcI g, 6, .inl (F 5)) := (hM).2.2.2.2.2.2.1
  have m_1r6 : ct 246 = .inl (fcI g, 36, .inl (F 6)) := (hM).2.2.2.2.2.2.2.1
  have m_1r7 : ct 247 = .inl (fcI g, 20, .inl (F 7)) := (hM).2.2.2.2.2.2.2.2.1
  have m_1r8 : ct 248 = .inl (fcI g, 20, .inl (F 8)) := (hM).2.2.2.2.2.2.2.2.2
  have hn3 := hG.n3
  have hn6 := hG.n6
  have hk20 := hG.k
  refine lv_iload_n hx hb dX8_count_0 rfl (lv_at hl 1 rfl) ?_
  rcases Decidable.em (y = nI 0) with k_1_0 | k_1_0
  · refine fs_vi k_1_0 ?_
    refine lv_tableIn (off := 59) (tgt := 60) hx hb dX8_count_1 (by decide) (by decide) rfl (by decide) ?_
    subst k_1_0
    refine lv_aload_n hx hb dX8_count_60 rfl (lv_at hl 0 rfl) ?_
    refine fs_get E hP (k := 239) (v := .ref (fa g 240)) 0 fc8 m_1o (by omega) (by decide) (wm wl_5 (i := 0) rfl) rfl dX8_count_61 ?_
    refine lv_iload_n hx hb dX8_count_64 rfl (lv_at hl 1 rfl) ?_
    refine fs_iald E hP (k := 240) m_1r0 (by omega) (vp_in_nI (by omega) (by omega)) dX8_count_65 ?_
    refine fs_vi (y := (F 0) 0) (congrArg (F 0) (nI_clamp (by omega))) ?_
    refine fs_vi (y := (nI (nB σ))) (hT.n hG) ?_
    refine fs_iret E hr hlk hP hS dX8_count_66 ?_
    refine ⟨?_, hR, fSame.rf⟩
    rw [ctF, if_pos rfl]
  rcases Decidable.em (y = nI 1) with k_1_1 | k_1_1
  · refine fs_vi k_1_1 ?_
    refine lv_tableIn (off := 59) (tgt := 60) hx hb dX8_count_1 (by decide) (by decide) rfl (by decide) ?_
    subst k_1_1
    refine lv_aload_n hx hb dX8_count_60 rfl (lv_at hl 0 rfl) ?_
    refine fs_get E hP (k := 239) (v := .ref (fa g 240)) 0 fc8 m_1o (by omega) (by decide) (wm wl_5 (i := 0) rfl) rfl dX8_count_61 ?_
    refine lv_iload_n hx hb dX8_count_64 rfl (lv_at hl 1 rfl) ?_
    refine fs_iald E hP (k := 240) m_1r0 (by omega) (vp_in_nI (by omega) (by omega)) dX8_count_65 ?_
    refine fs_vi (y := (F 0) 1) (congrArg (F 0) (nI_clamp (by omega))) ?_
    refine fs_vi (y := (nI (nT σ))) (hT.k hG) ?_
    refine fs_iret E hr hlk hP hS dX8_count_66 ?_
    refine ⟨?_, hR, fSame.rf⟩
    rw [ctF, if_neg k_1_0, if_pos rfl]
  rcases Decidable.em (y = nI 2) with k_1_2 | k_1_2
  · refine fs_vi k_1_2 ?_
    refine lv_tableIn (off := 66) (tgt := 67) hx hb dX8_count_1 (by decide) (by decide) rfl (by decide) ?_
    refine lv_aload_n hx hb dX8_count_67 rfl (lv_at hl 0 rfl) ?_
    refine fs_pi (va_runV (As := []) (rest := []) E.1 (c_X8_openMany l g N ct z F σ (by omega) hG hM hT) (lk_RX8_166 E.1.2.2.2.2 ⟨Nat.le_of_ble_eq_true rfl, Nat.le_of_ble_eq_true rfl⟩) (fpreV E hP hS fc8 m_1o (by omega)) rfl rfl hl.1 rfl (lv_room (Nat.le_of_ble_eq_true rfl)) dX8_count_68 ⟨Nat.zero_le _, Nat.zero_le _⟩) hS (fun r_68 locs p_68 hS => ?_)
    refine fs_vi (y := (nI (cN (fun i => decide (rk σ i 4 = 0)) (nT σ)))) p_68 ?_
    refine fs_iret E hr hlk hP hS dX8_count_71 ?_
    refine ⟨?_, hR, fSame.rf⟩
    rw [ctF, if_neg k_1_0, if_neg k_1_1, if_pos k_1_2]
  rcases Decidable.em (y = nI 3) with k_1_3 | k_1_3
  · refine fs_vi k_1_3 ?_
    refine lv_tableIn (off := 71) (tgt := 72) hx hb dX8_count_1 (by decide) (by decide) rfl (by decide) ?_
    refine lv_aload_n hx hb dX8_count_72 rfl (lv_at hl 0 rfl) ?_
    refine fs_i (va_runV (As := []) (rest := []) E.1 (c_X8_worldsNow l g N ct z F σ (by omega) hG hM hT) (lk_RX8_153 E.1.2.2.2.2 ⟨Nat.le_of_ble_eq_true rfl, Nat.le_of_ble_eq_true rfl⟩) (fpreV E hP hS fc8 m_1o (by omega)) rfl rfl hl.1 rfl (lv_room (Nat.le_of_ble_eq_true rfl)) dX8_count_73 ⟨Nat.zero_le _, Nat.zero_le _⟩) hS (fun r_73 ct_2 H locs p_73 hP hS => ?_)
    refine fs_vi (y := (nI (Wn σ))) p_73.1 ?_
    obtain ⟨z_3, F_4, M_5, K_6, C_7, S_8⟩ := p_73.2
    have T_9 := KK.sr K_6 hT
    have m_10o : ct_2 239 = .inr (8, [.ref (fa g 240), .ref (fa g 241), .int (z_3 0), .ref (fa g 242), .ref (fa g 243), .ref (fa g 244), .int (z_3 1), .ref (fa g 245), .int (z_3 2), .ref (fa g 246), .ref (fa g 247), .ref (fa g 248), .int (z_3 3), .int (z_3 4), .int (z_3 5), .int (z_3 6), .int (z_3 7), .int (z_3 8), .int (z_3 9)]) := (M_5).1
    have m_10r0 : ct_2 240 = .inl (fcI g, 121, .inl (F_4 0)) := (M_5).2.1
    have m_10r1 : ct_2 241 = .inl (fcI g, 726, .inl (F_4 1)) := (M_5).2.2.1
    have m_10r2 : ct_2 242 = .inl (fcI g, 242, .inl (F_4 2)) := (M_5).2.2.2.1
    have m_10r3 : ct_2 243 = .inl (fcI g, 2, .inl (F_4 3)) := (M_5).2.2.2.2.1
    have m_10r4 : ct_2 244 = .inl (fcI g, 60, .inl (F_4 4)) := (M_5).2.2.2.2.2.1
    have m_10r5 : ct_2 245 = .inl (fcI g, 6, .inl (F_4 5)) := (M_5).2.2.2.2.2.2.1
    have m_10r6 : ct_2 246 = .inl (fcI g, 36, .inl (F_4 6)) := (M_5).2.2.2.2.2.2.2.1
    have m_10r7 : ct_2 247 = .inl (fcI g, 20, .inl (F_4 7)) := (M_5).2.2.2.2.2.2.2.2.1
    have m_10r8 : ct_2 248 = .inl (fcI g, 20, .inl (F_4 8)) := (M_5).2.2.2.2.2.2.2.2.2
    refine fs_iret E hr hlk hP hS dX8_count_76 ?_
    refine ⟨?_, RFAt.kk hT hH hS9 hQ M_5 K_6, (show fSame 239 249 _ _ from (fSame.tr2 fSame.rf S_8 (by omega) (by omega)))⟩
    rw [ctF, if_neg k_1_0, if_neg k_1_1, if_neg k_1_2, if_pos k_1_3]
  rcases Decidable.em (y = nI 4) with k_1_4 | k_1_4
  · refine fs_vi k_1_4 ?_
    refine lv_tableIn (off := 76) (tgt := 77) hx hb dX8_count_1 (by decide) (by decide) rfl (by decide) ?_
    refine lv_aload_n hx hb dX8_count_77 rfl (lv_at hl 0 rfl) ?_
    refine fs_i (va_runV (As := []) (rest := []) E.1 (c_X8_isTruthPossible l g N ct z F σ (by omega) hG hM hT) (lk_RX8_169 E.1.2.2.2.2 ⟨Nat.le_of_ble_eq_true rfl, Nat.le_of_ble_eq_true rfl⟩) (fpreV E hP hS fc8 m_1o (by omega)) rfl rfl hl.1 rfl (lv_room (Nat.le_of_ble_eq_true rfl)) dX8_count_78 ⟨Nat.zero_le _, Nat.zero_le _⟩) hS (fun r_78 ct_11 H locs p_78 hP hS => ?_)
    obtain ⟨z_12, F_13, M_14, K_15, S_16⟩ := p_78.2
    have T_17 := KK.sr K_15 hT
    have m_18o : ct_11 239 = .inr (8, [.ref (fa g 240), .ref (fa g 241), .int (z_12 0), .ref (fa g 242), .ref (fa g 243), .ref (fa g 244), .int (z_12 1), .ref (fa g 245), .int (z_12 2), .ref (fa g 246), .ref (fa g 247), .ref (fa g 248), .int (z_12 3), .int (z_12 4), .int (z_12 5), .int (z_12 6), .int (z_12 7), .int (z_12 8), .int (z_12 9)]) := (M_14).1
    have m_18r0 : ct_11 240 = .inl (fcI g, 121, .inl (F_13 0)) := (M_14).2.1
    have m_18r1 : ct_11 241 = .inl (fcI g, 726, .inl (F_13 1)) := (M_14).2.2.1
    have m_18r2 : ct_11 242 = .inl (fcI g, 242, .inl (F_13 2)) := (M_14).2.2.2.1
    have m_18r3 : ct_11 243 = .inl (fcI g, 2, .inl (F_13 3)) := (M_14).2.2.2.2.1
    have m_18r4 : ct_11 244 = .inl (fcI g, 60, .inl (F_13 4)) := (M_14).2.2.2.2.2.1
    have m_18r5 : ct_11 245 = .inl (fcI g, 6, .inl (F_13 5)) := (M_14).2.2.2.2.2.2.1
    have m_18r6 : ct_11 246 = .inl (fcI g, 36, .inl (F_13 6)) := (M_14).2.2.2.2.2.2.2.1
    have m_18r7 : ct_11 247 = .inl (fcI g, 20, .inl (F_13 7)) := (M_14).2.2.2.2.2.2.2.2.1
    have m_18r8 : ct_11 248 = .inl (fcI g, 20, .inl (F_13 8)) := (M_14).2.2.2.2.2.2.2.2.2
    refine lv_if_eq (tgt := 88) hx hb dX8_count_81 (by decide) (fun c_81 => ?_) (fun c_81 => ?_)
    · have c_81 := (fb_0 p_78.1).mp c_81
      refine lv_iconst (v := (nI 0)) hx hb dX8_count_88 (by decide) ?_
      refine fs_iret E hr hlk hP hS dX8_count_89 ?_
      refine ⟨?_, RFAt.kk hT hH hS9 hQ M_14 K_15, (show fSame 239 249 _ _ from (fSame.tr2 fSame.rf S_16 (by omega) (by omega)))⟩
      rw [ctF, if_neg k_1_0, if_neg k_1_1, if_neg k_1_2, if_neg k_1_3, if_pos k_1_4]
      exact bI_f c_81
    · have c_81 := (fb_1 p_78.1).mp c_81
      refine lv_iconst (v := (nI 1)) hx hb dX8_count_84 (by decide) ?_
      refine lv_goto (tgt := 89) hx hb dX8_count_85 (by decide) ?_
      refine fs_iret E hr hlk hP hS dX8_count_89 ?_
      refine ⟨?_, RFAt.kk hT hH hS9 hQ M_14 K_15, (show fSame 239 249 _ _ from (fSame.tr2 fSame.rf S_16 (by omega) (by omega)))⟩
      rw [ctF, if_neg k_1_0, if_neg k_1_1, if_neg k_1_2, if_neg k_1_3, if_pos k_1_4]
      exact bI_t c_81
  rcases Decidable.em (y = nI 5) with k_1_5 | k_1_5
  · refine fs_vi k_1_5 ?_
    refine lv_tableIn (off := 89) (tgt := 90) hx hb dX8_count_1 (by decide) (by decide) rfl (by decide) ?_
    refine lv_aload_n hx hb dX8_count_90 rfl (lv_at hl 0 rfl) ?_
    refine fs_get E hP (k := 239) (v := .ref (fa g 240)) 0 fc8 m_1o (by omega) (by decide) (wm wl_5 (i := 0) rfl) rfl dX8_count_91 ?_
    refine lv_iconst (v := (nI 2)) hx hb dX8_count_94 (by decide) ?_
    refine fs_iald E hP (k := 240) m_1r0 (by omega) (vp_in_nI (by omega) (by omega)) dX8_count_95 ?_
    refine fs_vi (y := (F 0) 2) (congrArg (F 0) (nI_clamp (by omega))) ?_
    refine fs_vi (y := (σ 2)) (hT _ (by omega)) ?_
    refine fs_iret E hr hlk hP hS dX8_count_96 ?_
    refine ⟨?_, hR, fSame.rf⟩
    rw [ctF, if_neg k_1_0, if_neg k_1_1, if_neg k_1_2, if_neg k_1_3, if_neg k_1_4, if_pos k_1_5]
  rcases Decidable.em (y = nI 6) with k_1_6 | k_1_6
  · refine fs_vi k_1_6 ?_
    refine lv_tableIn (off := 96) (tgt := 97) hx hb dX8_count_1 (by decide) (by decide) rfl (by decide) ?_
    refine lv_aload_n hx hb dX8_count_97 rfl (lv_at hl 0 rfl) ?_
    refine fs_i (va_runV (As := []) (rest := []) E.1 (c_X8_certainPersons l g N ct z F σ (by omega) hG hM hT) (lk_RX8_172 E.1.2.2.2.2 ⟨Nat.le_of_ble_eq_true rfl, Nat.le_of_ble_eq_true rfl⟩) (fpreV E hP hS fc8 m_1o (by omega)) rfl rfl hl.1 rfl (lv_room (Nat.le_of_ble_eq_true rfl)) dX8_count_98 ⟨Nat.zero_le _, Nat.zero_le _⟩) hS (fun r_98 ct_19 H locs p_98 hP hS => ?_)
    refine fs_vi (y := (nI (cN (fun p => decide (¬ crF σ p = -6)) (nB σ)))) p_98.1 ?_
    obtain ⟨z_20, F_21, M_22, K_23, S_24⟩ := p_98.2
    have T_25 := KK.sr K_23 hT
    have m_26o : ct_19 239 = .inr (8, [.ref (fa g 240), .ref (fa g 241), .int (z_20 0), .ref (fa g 242), .ref (fa g 243), .ref (fa g 244), .int (z_20 1), .ref (fa g 245), .int (z_20 2), .ref (fa g 246), .ref (fa g 247), .ref (fa g 248), .int (z_20 3), .int (z_20 4), .int (z_20 5), .int (z_20 6), .int (z_20 7), .int (z_20 8), .int (z_20 9)]) := (M_22).1
    have m_26r0 : ct_19 240 = .inl (fcI g, 121, .inl (F_21 0)) := (M_22).2.1
    have m_26r1 : ct_19 241 = .inl (fcI g, 726, .inl (F_21 1)) := (M_22).2.2.1
    have m_26r2 : ct_19 242 = .inl (fcI g, 242, .inl (F_21 2)) := (M_22).2.2.2.1
    have m_26r3 : ct_19 243 = .inl (fcI g, 2, .inl (F_21 3)) := (M_22).2.2.2.2.1
    have m_26r4 : ct_19 244 = .inl (fcI g, 60, .inl (F_21 4)) := (M_22).2.2.2.2.2.1
    have m_26r5 : ct_19 245 = .inl (fcI g, 6, .inl (F_21 5)) := (M_22).2.2.2.2.2.2.1
    have m_26r6 : ct_19 246 = .inl (fcI g, 36, .inl (F_21 6)) := (M_22).2.2.2.2.2.2.2.1
    have m_26r7 : ct_19 247 = .inl (fcI g, 20, .inl (F_21 7)) := (M_22).2.2.2.2.2.2.2.2.1
    have m_26r8 : ct_19 248 = .inl (fcI g, 20, .inl (F_21 8)) := (M_22).2.2.2.2.2.2.2.2.2
    refine fs_iret E hr hlk hP hS dX8_count_101 ?_
    refine ⟨?_, RFAt.kk hT hH hS9 hQ M_22 K_23, (show fSame 239 249 _ _ from (fSame.tr2 fSame.rf S_24 (by omega) (by omega)))⟩
    rw [ctF, if_neg k_1_0, if_neg k_1_1, if_neg k_1_2, if_neg k_1_3, if_neg k_1_4, if_neg k_1_5, if_pos k_1_6]
  rcases Decidable.em (y = nI 7) with k_1_7 | k_1_7
  · refine fs_vi k_1_7 ?_
    refine lv_tableIn (off := 101) (tgt := 102) hx hb dX8_count_1 (by decide) (by decide) rfl (by decide) ?_
    refine lv_aload_n hx hb dX8_count_102 rfl (lv_at hl 0 rfl) ?_
    refine lv_iconst (v := (nI 0)) hx hb dX8_count_103 (by decide) ?_
    refine fs_i (va_runV (As := [.int (nI 0)]) (rest := []) E.1 (c_X8_certainRumours l g N ct z F σ (by omega) hG hM hT false) (lk_RX8_175 E.1.2.2.2.2 ⟨Nat.le_of_ble_eq_true rfl, Nat.le_of_ble_eq_true rfl⟩) (fpreV E hP hS fc8 m_1o (by omega)) rfl rfl hl.1 rfl (lv_room (Nat.le_of_ble_eq_true rfl)) dX8_count_104 ⟨Nat.zero_le _, Nat.zero_le _⟩) hS (fun r_104 ct_27 H locs p_104 hP hS => ?_)
    refine fs_vi (y := (nI (cN (fun r => opn σ r && decide (0 < Wn σ ∧ HDn σ r = (if false = true then 0 else Wn σ))) (nT σ)))) p_104.1 ?_
    obtain ⟨z_28, F_29, M_30, K_31, S_32⟩ := p_104.2
    have T_33 := KK.sr K_31 hT
    have m_34o : ct_27 239 = .inr (8, [.ref (fa g 240), .ref (fa g 241), .int (z_28 0), .ref (fa g 242), .ref (fa g 243), .ref (fa g 244), .int (z_28 1), .ref (fa g 245), .int (z_28 2), .ref (fa g 246), .ref (fa g 247), .ref (fa g 248), .int (z_28 3), .int (z_28 4), .int (z_28 5), .int (z_28 6), .int (z_28 7), .int (z_28 8), .int (z_28 9)]) := (M_30).1
    have m_34r0 : ct_27 240 = .inl (fcI g, 121, .inl (F_29 0)) := (M_30).2.1
    have m_34r1 : ct_27 241 = .inl (fcI g, 726, .inl (F_29 1)) := (M_30).2.2.1
    have m_34r2 : ct_27 242 = .inl (fcI g, 242, .inl (F_29 2)) := (M_30).2.2.2.1
    have m_34r3 : ct_27 243 = .inl (fcI g, 2, .inl (F_29 3)) := (M_30).2.2.2.2.1
    have m_34r4 : ct_27 244 = .inl (fcI g, 60, .inl (F_29 4)) := (M_30).2.2.2.2.2.1
    have m_34r5 : ct_27 245 = .inl (fcI g, 6, .inl (F_29 5)) := (M_30).2.2.2.2.2.2.1
    have m_34r6 : ct_27 246 = .inl (fcI g, 36, .inl (F_29 6)) := (M_30).2.2.2.2.2.2.2.1
    have m_34r7 : ct_27 247 = .inl (fcI g, 20, .inl (F_29 7)) := (M_30).2.2.2.2.2.2.2.2.1
    have m_34r8 : ct_27 248 = .inl (fcI g, 20, .inl (F_29 8)) := (M_30).2.2.2.2.2.2.2.2.2
    refine fs_vi (y := (nI (cN (fun r => opn σ r && decide (0 < Wn σ ∧ HDn σ r = Wn σ)) (nT σ)))) rfl ?_
    refine fs_iret E hr hlk hP hS dX8_count_107 ?_
    refine ⟨?_, RFAt.kk hT hH hS9 hQ M_30 K_31, (show fSame 239 249 _ _ from (fSame.tr2 fSame.rf S_32 (by omega) (by omega)))⟩
    rw [ctF, if_neg k_1_0, if_neg k_1_1, if_neg k_1_2, if_neg k_1_3, if_neg k_1_4, if_neg k_1_5, if_neg k_1_6, if_pos k_1_7]
  rcases Decidable.em (y = nI 8) with k_1_8 | k_1_8
  · refine fs_vi k_1_8 ?_
    refine lv_tableIn (off := 107) (tgt := 108) hx hb dX8_count_1 (by decide) (by decide) rfl (by decide) ?_
    refine lv_aload_n hx hb dX8_count_108 rfl (lv_at hl 0 rfl) ?_
    refine lv_iconst (v := (nI 1)) hx hb dX8_count_109 (by decide) ?_
    refine fs_i (va_runV (As := [.int (nI 1)]) (rest := []) E.1 (c_X8_certainRumours l g N ct z F σ (by omega) hG hM hT true) (lk_RX8_175 E.1.2.2.2.2 ⟨Nat.le_of_ble_eq_true rfl, Nat.le_of_ble_eq_true rfl⟩) (fpreV E hP hS fc8 m_1o (by omega)) rfl rfl hl.1 rfl (lv_room (Nat.le_of_ble_eq_true rfl)) dX8_count_110 ⟨Nat.zero_le _, Nat.zero_le _⟩) hS (fun r_110 ct_35 H locs p_110 hP hS => ?_)
    refine fs_vi (y := (nI (cN (fun r => opn σ r && decide (0 < Wn σ ∧ HDn σ r = (if true = true then 0 else Wn σ))) (nT σ)))) p_110.1 ?_
    obtain ⟨z_36, F_37, M_38, K_39, S_40⟩ := p_110.2
    have T_41 := KK.sr K_39 hT
    have m_42o : ct_35 239 = .inr (8, [.ref (fa g 240), .ref (fa g 241), .int (z_36 0), .ref (fa g 242), .ref (fa g 243), .ref (fa g 244), .int (z_36 1), .ref (fa g 245), .int (z_36 2), .ref (fa g 246), .ref (fa g 247), .ref (fa g 248), .int (z_36 3), .int (z_36 4), .int (z_36 5), .int (z_36 6), .int (z_36 7), .int (z_36 8), .int (z_36 9)]) := (M_38).1
    have m_42r0 : ct_35 240 = .inl (fcI g, 121, .inl (F_37 0)) := (M_38).2.1
    have m_42r1 : ct_35 241 = .inl (fcI g, 726, .inl (F_37 1)) := (M_38).2.2.1
    have m_42r2 : ct_35 242 = .inl (fcI g, 242, .inl (F_37 2)) := (M_38).2.2.2.1
    have m_42r3 : ct_35 243 = .inl (fcI g, 2, .inl (F_37 3)) := (M_38).2.2.2.2.1
    have m_42r4 : ct_35 244 = .inl (fcI g, 60, .inl (F_37 4)) := (M_38).2.2.2.2.2.1
    have m_42r5 : ct_35 245 = .inl (fcI g, 6, .inl (F_37 5)) := (M_38).2.2.2.2.2.2.1
    have m_42r6 : ct_35 246 = .inl (fcI g, 36, .inl (F_37 6)) := (M_38).2.2.2.2.2.2.2.1
    have m_42r7 : ct_35 247 = .inl (fcI g, 20, .inl (F_37 7)) := (M_38).2.2.2.2.2.2.2.2.1
    have m_42r8 : ct_35 248 = .inl (fcI g, 20, .inl (F_37 8)) := (M_38).2.2.2.2.2.2.2.2.2
    refine fs_vi (y := (nI (cN (fun r => opn σ r && decide (0 < Wn σ ∧ HDn σ r = 0)) (nT σ)))) rfl ?_
    refine fs_iret E hr hlk hP hS dX8_count_113 ?_
    refine ⟨?_, RFAt.kk hT hH hS9 hQ M_38 K_39, (show fSame 239 249 _ _ from (fSame.tr2 fSame.rf S_40 (by omega) (by omega)))⟩
    rw [ctF, if_neg k_1_0, if_neg k_1_1, if_neg k_1_2, if_neg k_1_3, if_neg k_1_4, if_neg k_1_5, if_neg k_1_6, if_neg k_1_7, if_pos k_1_8]
  rcases Decidable.em (y = nI 9) with k_1_9 | k_1_9
  · refine fs_vi k_1_9 ?_
    refine lv_tableIn (off := 113) (tgt := 114) hx hb dX8_count_1 (by decide) (by decide) rfl (by decide) ?_
    refine lv_aload_n hx hb dX8_count_114 rfl (lv_at hl 0 rfl) ?_
    refine fs_get E hP (k := 239) (v := .int (z 1)) 6 fc8 m_1o (by omega) (by decide) (wm wl_16 (i := 13) rfl) rfl dX8_count_115 ?_
    refine fs_vi (y := nI len) hQ.1 ?_
    refine fs_iret E hr hlk hP hS dX8_count_118 ?_
    refine ⟨?_, hR, fSame.rf⟩
    rw [ctF, if_neg k_1_0, if_neg k_1_1, if_neg k_1_2, if_neg k_1_3, if_neg k_1_4, if_neg k_1_5, if_neg k_1_6, if_neg k_1_7, if_neg k_1_8, if_pos k_1_9]
  rcases Decidable.em (y = nI 10) with k_1_10 | k_1_10
  · refine fs_vi k_1_10 ?_
    refine lv_tableIn (off := 118) (tgt := 119) hx hb dX8_count_1 (by decide) (by decide) rfl (by decide) ?_
    refine lv_aload_n hx hb dX8_count_119 rfl (lv_at hl 0 rfl) ?_
    refine fs_get E hP (k := 239) (v := .int (z 0)) 2 fc8 m_1o (by omega) (by decide) (wm wl_7 (i := 22) rfl) rfl dX8_count_120 ?_
    refine fs_vi (y := nI k) hH.1 ?_
    refine fs_iret E hr hlk hP hS dX8_count_123 ?_
    refine ⟨?_, hR, fSame.rf⟩
    rw [ctF, if_neg k_1_0, if_neg k_1_1, if_neg k_1_2, if_neg k_1_3, if_neg k_1_4, if_neg k_1_5, if_neg k_1_6, if_neg k_1_7, if_neg k_1_8, if_neg k_1_9, if_pos k_1_10]
  refine lv_tableOut (tgt := 124) hx hb dX8_count_1 (ftab_0_10 k_1_0 k_1_1 k_1_2 k_1_3 k_1_4 k_1_5 k_1_6 k_1_7 k_1_8 k_1_9 k_1_10) (by decide) ?_
  refine lv_bipush (v := (-2)) hx hb dX8_count_124 (by decide) ?_
  refine fs_iret E hr hlk hP hS dX8_count_126 ?_
  refine ⟨?_, hR, fSame.rf⟩
  rw [ctF, if_neg k_1_0, if_neg k_1_1, if_neg k_1_2, if_neg k_1_3, if_neg k_1_4, if_neg k_1_5, if_neg k_1_6, if_neg k_1_7, if_neg k_1_8, if_neg k_1_9, if_neg k_1_10]

set_option maxRecDepth 100000 in
set_option maxHeartbeats 4000000 in
theorem c_X8_possible (l : Launch) (g : fG) (N : Nat) (ct : Nat → va_E) (σ : Nat → Int32) (k : Nat) (hs : Nat → Nat → Int32) (u1 : Bool) (s1 : Nat → Int32) (u2 : Bool) (s2 : Nat → Int32) (t : Nat → Nat) (len : Nat) (hN : 249 ≤ N) (hG : Good σ) (hR : RFAt g ct σ k hs u1 s1 u2 s2 t len) (x y : Int32) : Met l yX8_possible (wsU yX8_possible cX8_possible 3 (some .int)) rX8_possible (fPre g N ct [.ref (fa g 239), .int x, .int y]) (fQi g N (fun r ct1 => r = (if hbx σ x ∧ hbx σ y then nI (LKn σ x.toNatClampNeg y.toNatClampNeg) else -1) ∧ RFAt g ct1 σ k hs u1 s1 u2 s2 t len ∧ fSame 239 249 ct ct1)) 0 0 (fB g) := by
  refine fs_start (own := RX8) (lv0 := [(0, .ref (fa g 239)), (1, .int x), (2, .int y)]) (by decide) rfl (Nat.le_of_ble_eq_true rfl) rfl ?_
  intro p e s m args below meth c ls E hr hlk hnm hP hl hS
  have hx := E.1.1
  have hb := E.1.2.1
  obtain ⟨z, F, hM, hT, hH, hS9, hQ⟩ := id hR
  have m_1o : ct 239 = .inr (8, [.ref (fa g 240), .ref (fa g 241), .int (z 0), .ref (fa g 242), .ref (fa g 243), .ref (fa g 244), .int (z 1), .ref (fa g 245), .int (z 2), .ref (fa g 246), .ref (fa g 247), .ref (fa g 248), .int (z 3), .int (z 4), .int (z 5), .int (z 6), .int (z 7), .int (z 8), .int (z 9)]) := (hM).1
  have m_1r0 : ct 240 = .inl (fcI g, 121, .inl (F 0)) := (hM).2.1
  have m_1r1 : ct 241 = .inl (fcI g, 726, .inl (F 1)) := (hM).2.2.1
  have m_1r2 : ct 242 = .inl (fcI g, 242, .inl (F 2)) := (hM).2.2.2.1
  have m_1r3 : ct 243 = .inl (fcI g, 2, .inl (F 3)) := (hM).2.2.2.2.1
  have m_1r4 : ct 244 = .inl (fcI g, 60, .inl (F 4)) := (hM).2.2.2.2.2.1
  have m_1r5 : ct 245 = .inl (fcI g, 6, .inl (F 5)) := (hM).2.2.2.2.2.2.1
  have m_1r6 : ct 246 = .inl (fcI g, 36, .inl (F 6)) := (hM).2.2.2.2.2.2.2.1
  have m_1r7 : ct 247 = .inl (fcI g, 20, .inl (F 7)) := (hM).2.2.2.2.2.2.2.2.1
  have m_1r8 : ct 248 = .inl (fcI g, 20, .inl (F 8)) := (hM).2.2.2.2.2.2.2.2.2
  have hn3 := hG.n3
  have hn6 := hG.n6
  have hk20 := hG.k
  refine lv_aload_n hx hb dX8_possible_0 rfl (lv_at hl 0 rfl) ?_
  refine lv_iload_n hx hb dX8_possible_1 rfl (lv_at hl 1 rfl) ?_
  refine fs_pi (va_runV (As := [.int x]) (rest := []) E.1 (c_X8_isBox l g N ct z F σ (by omega) hG hM hT x) (lk_RX8_57 E.1.2.2.2.2 ⟨Nat.le_of_ble_eq_true rfl, Nat.le_of_ble_eq_true rfl⟩) (fpreV E hP hS fc8 m_1o (by omega)) rfl rfl hl.1 rfl (lv_room (Nat.le_of_ble_eq_true rfl)) dX8_possible_2 ⟨Nat.zero_le _, Nat.zero_le _⟩) hS (fun r_2 locs p_2 hS => ?_)
  refine lv_if_eq (tgt := 16) hx hb dX8_possible_5 (by decide) (fun c_5 => ?_) (fun c_5 => ?_)
  · have c_5 := (fb_0 p_2).mp c_5
    refine lv_iconst (v := (-1)) hx hb dX8_possible_16 (by decide) ?_
    refine fs_iret E hr hlk hP hS dX8_possible_17 ?_
    refine ⟨?_, hR, fSame.rf⟩
    rw [if_neg (fun z => by omega)]
  · have c_5 := (fb_1 p_2).mp c_5
    refine lv_aload_n hx hb dX8_possible_8 rfl (lv_at hl 0 rfl) ?_
    refine lv_iload_n hx hb dX8_possible_9 rfl (lv_at hl 2 rfl) ?_
    refine fs_pi (va_runV (As := [.int y]) (rest := []) E.1 (c_X8_isBox l g N ct z F σ (by omega) hG hM hT y) (lk_RX8_57 E.1.2.2.2.2 ⟨Nat.le_of_ble_eq_true rfl, Nat.le_of_ble_eq_true rfl⟩) (fpreV E hP hS fc8 m_1o (by omega)) rfl rfl hl.1 rfl (lv_room (Nat.le_of_ble_eq_true rfl)) dX8_possible_10 ⟨Nat.zero_le _, Nat.zero_le _⟩) hS (fun r_10 locs p_10 hS => ?_)
    refine lv_if_ne (tgt := 18) hx hb dX8_possible_13 (by decide) (fun c_13 => ?_) (fun c_13 => ?_)
    · have c_13 := (fb_1 p_10).mp c_13
      obtain ⟨p0, hp0, rfl⟩ := fex c_5.1 c_5.2
      obtain ⟨q0, hq0, rfl⟩ := fex c_13.1 c_13.2
      refine lv_aload_n hx hb dX8_possible_18 rfl (lv_at hl 0 rfl) ?_
      refine fs_v (va_runV (As := []) (rest := []) E.1 (c_X8_goThrough l g N ct z F σ (by omega) hG hM hT) (lk_RX8_102 E.1.2.2.2.2 ⟨Nat.le_of_ble_eq_true rfl, Nat.le_of_ble_eq_true rfl⟩) (fpreV E hP hS fc8 m_1o (by omega)) rfl rfl hl.1 rfl (lv_room (Nat.le_of_ble_eq_true rfl)) dX8_possible_19 ⟨Nat.zero_le _, Nat.zero_le _⟩) hS (fun ct_2 H locs p_19 hP hS => ?_)
      obtain ⟨z_3, F_4, M_5, K_6, C_7, S_8⟩ := p_19
      have T_9 := KK.sr K_6 hT
      have m_10o : ct_2 239 = .inr (8, [.ref (fa g 240), .ref (fa g 241), .int (z_3 0), .ref (fa g 242), .ref (fa g 243), .ref (fa g 244), .int (z_3 1), .ref (fa g 245), .int (z_3 2), .ref (fa g 246), .ref (fa g 247), .ref (fa g 248), .int (z_3 3), .int (z_3 4), .int (z_3 5), .int (z_3 6), .int (z_3 7), .int (z_3 8), .int (z_3 9)]) := (M_5).1
      have m_10r0 : ct_2 240 = .inl (fcI g, 121, .inl (F_4 0)) := (M_5).2.1
      have m_10r1 : ct_2 241 = .inl (fcI g, 726, .inl (F_4 1)) := (M_5).2.2.1
      have m_10r2 : ct_2 242 = .inl (fcI g, 242, .inl (F_4 2)) := (M_5).2.2.2.1
      have m_10r3 : ct_2 243 = .inl (fcI g, 2, .inl (F_4 3)) := (M_5).2.2.2.2.1
      have m_10r4 : ct_2 244 = .inl (fcI g, 60, .inl (F_4 4)) := (M_5).2.2.2.2.2.1
      have m_10r5 : ct_2 245 = .inl (fcI g, 6, .inl (F_4 5)) := (M_5).2.2.2.2.2.2.1
      have m_10r6 : ct_2 246 = .inl (fcI g, 36, .inl (F_4 6)) := (M_5).2.2.2.2.2.2.2.1
      have m_10r7 : ct_2 247 = .inl (fcI g, 20, .inl (F_4 7)) := (M_5).2.2.2.2.2.2.2.2.1
      have m_10r8 : ct_2 248 = .inl (fcI g, 20, .inl (F_4 8)) := (M_5).2.2.2.2.2.2.2.2.2
      refine lv_aload_n hx hb dX8_possible_22 rfl (lv_at hl 0 rfl) ?_
      refine fs_get E hP (k := 239) (v := .ref (fa g 246)) 9 fc8 m_10o (by omega) (by decide) (wm wl_5 (i := 6) rfl) rfl dX8_possible_23 ?_
      refine lv_bipush (v := (nI 6)) hx hb dX8_possible_26 (by decide) ?_
      refine lv_iload_n hx hb dX8_possible_28 rfl (lv_at hl 1 rfl) ?_
      refine lv_imul hx hb dX8_possible_29 ?_
      refine fs_vi (y := nI (6 * p0)) (pk_mul _ _) ?_
      refine lv_iload_n hx hb dX8_possible_30 rfl (lv_at hl 2 rfl) ?_
      refine lv_iadd hx hb dX8_possible_31 ?_
      refine fs_vi (y := nI (6 * p0 + q0)) (nI_add _ _) ?_
      refine fs_iald E hP (k := 246) m_10r6 (by omega) (vp_in_nI (by omega) (by omega)) dX8_possible_32 ?_
      refine fs_vi (y := (F_4 6) (6 * p0 + q0)) (congrArg (F_4 6) (nI_clamp (by omega))) ?_
      refine fs_vi (y := (nI (LKn σ p0 q0))) (C_7.2.1 p0 q0 hp0 (by omega)) ?_
      refine fs_iret E hr hlk hP hS dX8_possible_33 ?_
      rw [nI_cl (show p0 < 1000000 by omega)]
      rw [nI_cl (show q0 < 1000000 by omega)]
      refine ⟨?_, RFAt.kk hT hH hS9 hQ M_5 K_6, (show fSame 239 249 _ _ from (fSame.tr2 fSame.rf S_8 (by omega) (by omega)))⟩
      rw [if_pos ⟨c_5, c_13⟩]
    · have c_13 := (fb_0 p_10).mp c_13
      refine lv_iconst (v := (-1)) hx hb dX8_possible_16 (by decide) ?_
      refine fs_iret E hr hlk hP hS dX8_possible_17 ?_
      refine ⟨?_, hR, fSame.rf⟩
      rw [if_neg (fun z => by omega)]

set_option maxRecDepth 100000 in
set_option maxHeartbeats 4000000 in
theorem c_X8_certain (l : Launch) (g : fG) (N : Nat) (ct : Nat → va_E) (σ : Nat → Int32) (k : Nat) (hs : Nat → Nat → Int32) (u1 : Bool) (s1 : Nat → Int32) (u2 : Bool) (s2 : Nat → Int32) (t : Nat → Nat) (len : Nat) (hN : 249 ≤ N) (hG : Good σ) (hR : RFAt g ct σ k hs u1 s1 u2 s2 t len) (x : Int32) : Met l yX8_certain (wsU yX8_certain cX8_certain 2 (some .int)) rX8_certain (fPre g N ct [.ref (fa g 239), .int x]) (fQi g N (fun r ct1 => r = (if hbx σ x then crF σ x.toNatClampNeg else -1) ∧ RFAt g ct1 σ k hs u1 s1 u2 s2 t len ∧ fSame 239 249 ct ct1)) 0 0 (fB g) := by
  refine fs_start (own := RX8) (lv0 := [(0, .ref (fa g 239)), (1, .int x)]) (by decide) rfl (Nat.le_of_ble_eq_true rfl) rfl ?_
  intro p e s m args below meth c ls E hr hlk hnm hP hl hS
  have hx := E.1.1
  have hb := E.1.2.1
  obtain ⟨z, F, hM, hT, hH, hS9, hQ⟩ := id hR
  have m_1o : ct 239 = .inr (8, [.ref (fa g 240), .ref (fa g 241), .int (z 0), .ref (fa g 242), .ref (fa g 243), .ref (fa g 244), .int (z 1), .ref (fa g 245), .int (z 2), .ref (fa g 246), .ref (fa g 247), .ref (fa g 248), .int (z 3), .int (z 4), .int (z 5), .int (z 6), .int (z 7), .int (z 8), .int (z 9)]) := (hM).1
  have m_1r0 : ct 240 = .inl (fcI g, 121, .inl (F 0)) := (hM).2.1
  have m_1r1 : ct 241 = .inl (fcI g, 726, .inl (F 1)) := (hM).2.2.1
  have m_1r2 : ct 242 = .inl (fcI g, 242, .inl (F 2)) := (hM).2.2.2.1
  have m_1r3 : ct 243 = .inl (fcI g, 2, .inl (F 3)) := (hM).2.2.2.2.1
  have m_1r4 : ct 244 = .inl (fcI g, 60, .inl (F 4)) := (hM).2.2.2.2.2.1
  have m_1r5 : ct 245 = .inl (fcI g, 6, .inl (F 5)) := (hM).2.2.2.2.2.2.1
  have m_1r6 : ct 246 = .inl (fcI g, 36, .inl (F 6)) := (hM).2.2.2.2.2.2.2.1
  have m_1r7 : ct 247 = .inl (fcI g, 20, .inl (F 7)) := (hM).2.2.2.2.2.2.2.2.1
  have m_1r8 : ct 248 = .inl (fcI g, 20, .inl (F 8)) := (hM).2.2.2.2.2.2.2.2.2
  have hn3 := hG.n3
  have hn6 := hG.n6
  have hk20 := hG.k
  refine lv_aload_n hx hb dX8_certain_0 rfl (lv_at hl 0 rfl) ?_
  refine lv_iload_n hx hb dX8_certain_1 rfl (lv_at hl 1 rfl) ?_
  refine fs_pi (va_runV (As := [.int x]) (rest := []) E.1 (c_X8_isBox l g N ct z F σ (by omega) hG hM hT x) (lk_RX8_57 E.1.2.2.2.2 ⟨Nat.le_of_ble_eq_true rfl, Nat.le_of_ble_eq_true rfl⟩) (fpreV E hP hS fc8 m_1o (by omega)) rfl rfl hl.1 rfl (lv_room (Nat.le_of_ble_eq_true rfl)) dX8_certain_2 ⟨Nat.zero_le _, Nat.zero_le _⟩) hS (fun r_2 locs p_2 hS => ?_)
  refine lv_if_ne (tgt := 10) hx hb dX8_certain_5 (by decide) (fun c_5 => ?_) (fun c_5 => ?_)
  · have c_5 := (fb_1 p_2).mp c_5
    obtain ⟨p0, hp0, rfl⟩ := fex c_5.1 c_5.2
    refine lv_aload_n hx hb dX8_certain_10 rfl (lv_at hl 0 rfl) ?_
    refine fs_v (va_runV (As := []) (rest := []) E.1 (c_X8_goThrough l g N ct z F σ (by omega) hG hM hT) (lk_RX8_102 E.1.2.2.2.2 ⟨Nat.le_of_ble_eq_true rfl, Nat.le_of_ble_eq_true rfl⟩) (fpreV E hP hS fc8 m_1o (by omega)) rfl rfl hl.1 rfl (lv_room (Nat.le_of_ble_eq_true rfl)) dX8_certain_11 ⟨Nat.zero_le _, Nat.zero_le _⟩) hS (fun ct_2 H locs p_11 hP hS => ?_)
    obtain ⟨z_3, F_4, M_5, K_6, C_7, S_8⟩ := p_11
    have T_9 := KK.sr K_6 hT
    have m_10o : ct_2 239 = .inr (8, [.ref (fa g 240), .ref (fa g 241), .int (z_3 0), .ref (fa g 242), .ref (fa g 243), .ref (fa g 244), .int (z_3 1), .ref (fa g 245), .int (z_3 2), .ref (fa g 246), .ref (fa g 247), .ref (fa g 248), .int (z_3 3), .int (z_3 4), .int (z_3 5), .int (z_3 6), .int (z_3 7), .int (z_3 8), .int (z_3 9)]) := (M_5).1
    have m_10r0 : ct_2 240 = .inl (fcI g, 121, .inl (F_4 0)) := (M_5).2.1
    have m_10r1 : ct_2 241 = .inl (fcI g, 726, .inl (F_4 1)) := (M_5).2.2.1
    have m_10r2 : ct_2 242 = .inl (fcI g, 242, .inl (F_4 2)) := (M_5).2.2.2.1
    have m_10r3 : ct_2 243 = .inl (fcI g, 2, .inl (F_4 3)) := (M_5).2.2.2.2.1
    have m_10r4 : ct_2 244 = .inl (fcI g, 60, .inl (F_4 4)) := (M_5).2.2.2.2.2.1
    have m_10r5 : ct_2 245 = .inl (fcI g, 6, .inl (F_4 5)) := (M_5).2.2.2.2.2.2.1
    have m_10r6 : ct_2 246 = .inl (fcI g, 36, .inl (F_4 6)) := (M_5).2.2.2.2.2.2.2.1
    have m_10r7 : ct_2 247 = .inl (fcI g, 20, .inl (F_4 7)) := (M_5).2.2.2.2.2.2.2.2.1
    have m_10r8 : ct_2 248 = .inl (fcI g, 20, .inl (F_4 8)) := (M_5).2.2.2.2.2.2.2.2.2
    refine lv_aload_n hx hb dX8_certain_14 rfl (lv_at hl 0 rfl) ?_
    refine lv_iload_n hx hb dX8_certain_15 rfl (lv_at hl 1 rfl) ?_
    refine fs_pi (va_runV (As := [.int (nI p0)]) (rest := []) E.1 (c_X8_certainBox l g N ct_2 z_3 F_4 σ (by omega) hG M_5 T_9 C_7 p0 hp0) (lk_RX8_159 E.1.2.2.2.2 ⟨Nat.le_of_ble_eq_true rfl, Nat.le_of_ble_eq_true rfl⟩) (fpreV E hP hS fc8 m_10o (by omega)) rfl rfl hl.1 rfl (lv_room (Nat.le_of_ble_eq_true rfl)) dX8_certain_16 ⟨Nat.zero_le _, Nat.zero_le _⟩) hS (fun r_16 locs p_16 hS => ?_)
    refine fs_vi (y := (crF σ p0)) p_16 ?_
    refine fs_iret E hr hlk hP hS dX8_certain_19 ?_
    rw [nI_cl (show p0 < 1000000 by omega)]
    refine ⟨?_, RFAt.kk hT hH hS9 hQ M_5 K_6, (show fSame 239 249 _ _ from (fSame.tr2 fSame.rf S_8 (by omega) (by omega)))⟩
    rw [if_pos c_5]
  · have c_5 := (fb_0 p_2).mp c_5
    refine lv_iconst (v := (-1)) hx hb dX8_certain_8 (by decide) ?_
    refine fs_iret E hr hlk hP hS dX8_certain_9 ?_
    refine ⟨?_, hR, fSame.rf⟩
    rw [if_neg c_5]
