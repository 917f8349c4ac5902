theorem RFAt.ch {g : fG} {ct1 : Nat → va_E} {τ : Nat → Int32} {k1 : Nat} {hs1 : Nat → Nat → Int32} {u1 u2 : Bool} {s1 s2 : Nat → Int32} {t : Nat → Nat} {len : Nat} {z z2 : Nat → Int32} {F F2 : Nat → Nat → Int32} (hS : RS u1 s1 u2 s2 F) (hQ : RP t len z F) (M : MA g ct1 z2 F2) (hT : SR τ F2) (hH : RH k1 hs1 z2 F2) (e1 : z2 1 = z 1) (f2 : F2 2 = F 2) (f3 : F2 3 = F 3) (f4 : F2 4 = F 4) : RFAt g ct1 τ k1 hs1 u1 s1 u2 s2 t len :=
  ⟨z2, F2, M, hT, hH, ⟨by rw [f3]; exact hS.1, by rw [f3]; exact hS.2.1, fun h j hj => by rw [f2]; exact hS.2.2.1 h j hj, fun h j hj => by rw [f2]; exact hS.2.2.2 h j hj⟩, ⟨by rw [e1]; exact hQ.1, hQ.2.1, fun i hi => by rw [f4]; exact hQ.2.2 i hi⟩⟩
def RFc (g : fG) (ct : Nat → va_E) (c : Prop) [Decidable c] (τ σ : Nat → Int32) (k : Nat) (hs : Nat → Nat → Int32) (u1 : Bool) (s1 : Nat → Int32) (u2 : Bool) (s2 : Nat → Int32) (t : Nat → Nat) (len : Nat) : Prop :=
  RFAt g ct (if c then τ else σ) (if c then min (k + 1) 6 else k) (if c then recH σ hs else hs) u1 s1 u2 s2 t len
section RFS
variable {g : fG} {ct : Nat → va_E} {σ τ : Nat → Int32} {k : Nat} {hs : Nat → Nat → Int32} {u1 u2 : Bool} {s1 s2 : Nat → Int32} {t : Nat → Nat} {len : Nat}
theorem RFc_t {c : Prop} [Decidable c] (hc : c) (H : RFAt g ct τ (min (k + 1) 6) (recH σ hs) u1 s1 u2 s2 t len) : RFc g ct c τ σ k hs u1 s1 u2 s2 t len := by unfold RFc; rw [if_pos hc, if_pos hc, if_pos hc]; exact H
theorem RFc_f {c : Prop} [Decidable c] (hc : ¬ c) (H : RFAt g ct σ k hs u1 s1 u2 s2 t len) : RFc g ct c τ σ k hs u1 s1 u2 s2 t len := by unfold RFc; rw [if_neg hc, if_neg hc, if_neg hc]; exact H
end RFS

set_option maxRecDepth 100000 in
set_option maxHeartbeats 4000000 in
theorem c_X8_open (l : Launch) (g : fG) (N : Nat) (ct : Nat → va_E) (σ : Nat → Int32) (k : Nat) (hs : Nat → Nat → Int32) (u1 : Bool) (s1 : Nat → Int32) (u2 : Bool) (s2 : Nat → Int32) (t : Nat → Nat) (len : Nat) (hN : 249 ≤ N) (hG : Good σ) (hR : RFAt g ct σ k hs u1 s1 u2 s2 t len) (x : Int32) : Met l yX8_open (wsU yX8_open cX8_open 3 (some .int)) rX8_open (fPre g N ct [.ref (fa g 239), .int x]) (fQi g N (fun r ct1 => r = (if 3 ≤ x.toInt ∧ x.toInt ≤ 6 then nI (nB σ) else -2) ∧ RFc g ct1 (3 ≤ x.toInt ∧ x.toInt ≤ 6) (sOpen x.toNatClampNeg) σ k hs u1 s1 u2 s2 t len ∧ fSame 239 249 ct ct1)) 0 0 (fB g) := by
  refine fs_start (own := RX8) (lv0 := [(0, .ref (fa g 239)), (1, .int x)]) (by decide) rfl (Nat.le_of_ble_eq_true rfl) rfl ?_
  intro p e s m args below meth c ls E hr hlk hnm hP hl hS
  have hx := E.1.1
  have hb := E.1.2.1
  obtain ⟨z, F, hM, hT, hH, hS9, hQ⟩ := id hR
  have m_1o : ct 239 = .inr (8, [.ref (fa g 240), .ref (fa g 241), .int (z 0), .ref (fa g 242), .ref (fa g 243), .ref (fa g 244), .int (z 1), .ref (fa g 245), .int (z 2), .ref (fa g 246), .ref (fa g 247), .ref (fa g 248), .int (z 3), .int (z 4), .int (z 5), .int (z 6), .int (z 7), .int (z 8), .int (z 9)]) := (hM).1
  have m_1r0 : ct 240 = .inl (fcI g, 121, .inl (F 0)) := (hM).2.1
  have m_1r1 : ct 241 = .inl (fcI g, 726, .inl (F 1)) := (hM).2.2.1
  have m_1r2 : ct 242 = .inl (fcI g, 242, .inl (F 2)) := (hM).2.2.2.1
  have m_1r3 : ct 243 = .inl (fcI g, 2, .inl (F 3)) := (hM).2.2.2.2.1
  have m_1r4 : ct 244 = .inl (fcI g, 60, .inl (F 4)) := (hM).2.2.2.2.2.1
  have m_1r5 : ct 245 = .inl (fcI g, 6, .inl (F 5)) := (hM).2.2.2.2.2.2.1
  have m_1r6 : ct 246 = .inl (fcI g, 36, .inl (F 6)) := (hM).2.2.2.2.2.2.2.1
  have m_1r7 : ct 247 = .inl (fcI g, 20, .inl (F 7)) := (hM).2.2.2.2.2.2.2.2.1
  have m_1r8 : ct 248 = .inl (fcI g, 20, .inl (F 8)) := (hM).2.2.2.2.2.2.2.2.2
  have hn3 := hG.n3
  have hn6 := hG.n6
  have hk20 := hG.k
  refine lv_iload_n hx hb dX8_open_0 rfl (lv_at hl 1 rfl) ?_
  refine lv_iconst (v := (nI 3)) hx hb dX8_open_1 (by decide) ?_
  refine lv_bipush (v := (nI 6)) hx hb dX8_open_2 (by decide) ?_
  refine fs_pi (va_runS (As := [.int x, .int (nI 3), .int (nI 6)]) (rest := []) E.1 (c_X8_within l g N ct x (nI 3) (nI 6)) (lk_RX8_49 E.1.2.2.2.2 ⟨Nat.le_of_ble_eq_true rfl, Nat.le_of_ble_eq_true rfl⟩) (fpreS E hP hS) rfl rfl hl.1 rfl (lv_room (Nat.le_of_ble_eq_true rfl)) dX8_open_4 ⟨Nat.zero_le _, Nat.zero_le _⟩) hS (fun r_4 locs p_4 hS => ?_)
  refine lv_if_ne (tgt := 13) hx hb dX8_open_7 (by decide) (fun c_7 => ?_) (fun c_7 => ?_)
  · have c_7 := (fb_1 p_4).mp c_7
    have e3 : (nI 3).toInt = 3 := rfl
    have e6 : (nI 6).toInt = 6 := rfl
    rw [e3, e6] at c_7
    have c36 := c_7
    obtain ⟨n0, hn0, rfl⟩ := fex (x := x) (n := 7) (by omega) (by omega)
    have hn03 : 3 ≤ n0 := by have := c36.1; rw [nI_toInt (by omega)] at this; omega
    refine lv_aload_n hx hb dX8_open_13 rfl (lv_at hl 0 rfl) ?_
    refine fs_v (va_runV (As := []) (rest := []) E.1 (c_X8_record l g N ct z F σ (by omega) hG hM hT k hs hH) (lk_RX8_105 E.1.2.2.2.2 ⟨Nat.le_of_ble_eq_true rfl, Nat.le_of_ble_eq_true rfl⟩) (fpreV E hP hS fc8 m_1o (by omega)) rfl rfl hl.1 rfl (lv_room (Nat.le_of_ble_eq_true rfl)) dX8_open_14 ⟨Nat.zero_le _, Nat.zero_le _⟩) hS (fun ct_2 H locs p_14 hP hS => ?_)
    obtain ⟨z_3, F_4, M5, hRH5, e5, f50, f52, f53, f54, S_5⟩ := p_14
    have T_6 : SR σ F_4 := fun i hi => by rw [f50]; exact hT i hi
    have m_7o : ct_2 239 = .inr (8, [.ref (fa g 240), .ref (fa g 241), .int (z_3 0), .ref (fa g 242), .ref (fa g 243), .ref (fa g 244), .int (z_3 1), .ref (fa g 245), .int (z_3 2), .ref (fa g 246), .ref (fa g 247), .ref (fa g 248), .int (z_3 3), .int (z_3 4), .int (z_3 5), .int (z_3 6), .int (z_3 7), .int (z_3 8), .int (z_3 9)]) := (M5).1
    have m_7r0 : ct_2 240 = .inl (fcI g, 121, .inl (F_4 0)) := (M5).2.1
    have m_7r1 : ct_2 241 = .inl (fcI g, 726, .inl (F_4 1)) := (M5).2.2.1
    have m_7r2 : ct_2 242 = .inl (fcI g, 242, .inl (F_4 2)) := (M5).2.2.2.1
    have m_7r3 : ct_2 243 = .inl (fcI g, 2, .inl (F_4 3)) := (M5).2.2.2.2.1
    have m_7r4 : ct_2 244 = .inl (fcI g, 60, .inl (F_4 4)) := (M5).2.2.2.2.2.1
    have m_7r5 : ct_2 245 = .inl (fcI g, 6, .inl (F_4 5)) := (M5).2.2.2.2.2.2.1
    have m_7r6 : ct_2 246 = .inl (fcI g, 36, .inl (F_4 6)) := (M5).2.2.2.2.2.2.2.1
    have m_7r7 : ct_2 247 = .inl (fcI g, 20, .inl (F_4 7)) := (M5).2.2.2.2.2.2.2.2.1
    have m_7r8 : ct_2 248 = .inl (fcI g, 20, .inl (F_4 8)) := (M5).2.2.2.2.2.2.2.2.2
    refine lv_aload_n hx hb dX8_open_17 rfl (lv_at hl 0 rfl) ?_
    refine fs_get E hP (k := 239) (v := .ref (fa g 240)) 0 fc8 m_7o (by omega) (by decide) (wm wl_5 (i := 0) rfl) rfl dX8_open_18 ?_
    refine lv_iconst (v := (nI 0)) hx hb dX8_open_21 (by decide) ?_
    refine fs_iald E hP (k := 240) m_7r0 (by omega) (vp_in_nI (by omega) (by omega)) dX8_open_22 ?_
    refine fs_vi (y := (F_4 0) 0) (congrArg (F_4 0) (nI_clamp (by omega))) ?_
    refine fs_vi (y := (nI (nB σ))) (T_6.n hG) ?_
    refine lv_istore_n (lv' := [(2, .int (nI (nB σ))), (0, .ref (fa g 239)), (1, .int (nI n0))]) hx hb dX8_open_23 rfl hl (by decide) rfl (fun ls hl => ?_)
    refine lv_aload_n hx hb dX8_open_24 rfl (lv_at hl 1 rfl) ?_
    refine lv_iload_n hx hb dX8_open_25 rfl (lv_at hl 2 rfl) ?_
    refine fs_v (va_runV (As := [.int (nI n0)]) (rest := []) E.1 (c_X8_begins l g N ct_2 z_3 F_4 (by omega) M5 n0 (by omega) (by omega)) (lk_RX8_37 E.1.2.2.2.2 ⟨Nat.le_of_ble_eq_true rfl, Nat.le_of_ble_eq_true rfl⟩) (fpreV E hP hS fc8 m_7o (by omega)) rfl rfl hl.1 rfl (lv_room (Nat.le_of_ble_eq_true rfl)) dX8_open_26 ⟨Nat.zero_le _, Nat.zero_le _⟩) hS (fun ct_8 H locs p_26 hP hS => ?_)
    obtain ⟨fb5, eb5, hb5⟩ := p_26
    have M_9 := MA.f0 M5 eb5
    have m_11o : ct_8 239 = .inr (8, [.ref (fa g 240), .ref (fa g 241), .int (z_3 0), .ref (fa g 242), .ref (fa g 243), .ref (fa g 244), .int (z_3 1), .ref (fa g 245), .int (z_3 2), .ref (fa g 246), .ref (fa g 247), .ref (fa g 248), .int (z_3 3), .int (z_3 4), .int (z_3 5), .int (z_3 6), .int (z_3 7), .int (z_3 8), .int (z_3 9)]) := (M_9).1
    have m_11r0 : ct_8 240 = .inl (fcI g, 121, .inl fb5) := (M_9).2.1
    have m_11r1 : ct_8 241 = .inl (fcI g, 726, .inl (F_4 1)) := (M_9).2.2.1
    have m_11r2 : ct_8 242 = .inl (fcI g, 242, .inl (F_4 2)) := (M_9).2.2.2.1
    have m_11r3 : ct_8 243 = .inl (fcI g, 2, .inl (F_4 3)) := (M_9).2.2.2.2.1
    have m_11r4 : ct_8 244 = .inl (fcI g, 60, .inl (F_4 4)) := (M_9).2.2.2.2.2.1
    have m_11r5 : ct_8 245 = .inl (fcI g, 6, .inl (F_4 5)) := (M_9).2.2.2.2.2.2.1
    have m_11r6 : ct_8 246 = .inl (fcI g, 36, .inl (F_4 6)) := (M_9).2.2.2.2.2.2.2.1
    have m_11r7 : ct_8 247 = .inl (fcI g, 20, .inl (F_4 7)) := (M_9).2.2.2.2.2.2.2.2.1
    have m_11r8 : ct_8 248 = .inl (fcI g, 20, .inl (F_4 8)) := (M_9).2.2.2.2.2.2.2.2.2
    refine lv_iload_n hx hb dX8_open_29 rfl (lv_at hl 0 rfl) ?_
    have MA8 : MA g ct_8 (mkz (z_3 0) (z_3 1) (z_3 2) (z_3 3) (z_3 4) (z_3 5) (z_3 6) (z_3 7) (z_3 8) (z_3 9)) (mkF fb5 (F_4 1) (F_4 2) (F_4 3) (F_4 4) (F_4 5) (F_4 6) (F_4 7) (F_4 8)) := ⟨m_11o, m_11r0, m_11r1, m_11r2, m_11r3, m_11r4, m_11r5, m_11r6, m_11r7, m_11r8⟩
    refine fs_iret E hr hlk hP hS dX8_open_30 ?_
    rw [nI_cl (show n0 < 1000000 by omega)]
    refine ⟨?_, RFc_t (c36) (RFAt.ch hS9 hQ MA8 (fun i hi => hb5 i hi) hRH5 e5 f52 f53 f54), (show fSame 239 249 _ _ from (fSame.ap (fSame.tr2 fSame.rf S_5 (by omega) (by omega)) eb5 (by omega) (by omega)))⟩
    rw [if_pos c36]
  · have c_7 := (fb_0 p_4).mp c_7
    have e3 : (nI 3).toInt = 3 := rfl
    have e6 : (nI 6).toInt = 6 := rfl
    rw [e3, e6] at c_7
    have c36 := c_7
    refine lv_bipush (v := (-2)) hx hb dX8_open_10 (by decide) ?_
    refine fs_iret E hr hlk hP hS dX8_open_12 ?_
    refine ⟨?_, RFc_f (c36) hR, fSame.rf⟩
    rw [if_neg c36]

set_option maxRecDepth 100000 in
set_option maxHeartbeats 4000000 in
theorem c_X8_look (l : Launch) (g : fG) (N : Nat) (ct : Nat → va_E) (σ : Nat → Int32) (k : Nat) (hs : Nat → Nat → Int32) (u1 : Bool) (s1 : Nat → Int32) (u2 : Bool) (s2 : Nat → Int32) (t : Nat → Nat) (len : Nat) (hN : 249 ≤ N) (hG : Good σ) (hR : RFAt g ct σ k hs u1 s1 u2 s2 t len) (x y : Int32) : Met l yX8_look (wsU yX8_look cX8_look 4 (some .int)) rX8_look (fPre g N ct [.ref (fa g 239), .int x, .int y]) (fQi g N (fun r ct1 => r = (if hbx σ x ∧ hbx σ y then (if x = y then -2 else nI (lkf σ x.toNatClampNeg)) else -1) ∧ RFc g ct1 ((hbx σ x ∧ hbx σ y) ∧ ¬ x = y) (upd σ (3 + x.toNatClampNeg) y) σ k hs u1 s1 u2 s2 t len ∧ fSame 239 249 ct ct1)) 0 0 (fB g) := by
  refine fs_start (own := RX8) (lv0 := [(0, .ref (fa g 239)), (1, .int x), (2, .int y)]) (by decide) rfl (Nat.le_of_ble_eq_true rfl) rfl ?_
  intro p e s m args below meth c ls E hr hlk hnm hP hl hS
  have hx := E.1.1
  have hb := E.1.2.1
  obtain ⟨z, F, hM, hT, hH, hS9, hQ⟩ := id hR
  have m_1o : ct 239 = .inr (8, [.ref (fa g 240), .ref (fa g 241), .int (z 0), .ref (fa g 242), .ref (fa g 243), .ref (fa g 244), .int (z 1), .ref (fa g 245), .int (z 2), .ref (fa g 246), .ref (fa g 247), .ref (fa g 248), .int (z 3), .int (z 4), .int (z 5), .int (z 6), .int (z 7), .int (z 8), .int (z 9)]) := (hM).1
  have m_1r0 : ct 240 = .inl (fcI g, 121, .inl (F 0)) := (hM).2.1
  have m_1r1 : ct 241 = .inl (fcI g, 726, .inl (F 1)) := (hM).2.2.1
  have m_1r2 : ct 242 = .inl (fcI g, 242, .inl (F 2)) := (hM).2.2.2.1
  have m_1r3 : ct 243 = .inl (fcI g, 2, .inl (F 3)) := (hM).2.2.2.2.1
  have m_1r4 : ct 244 = .inl (fcI g, 60, .inl (F 4)) := (hM).2.2.2.2.2.1
  have m_1r5 : ct 245 = .inl (fcI g, 6, .inl (F 5)) := (hM).2.2.2.2.2.2.1
  have m_1r6 : ct 246 = .inl (fcI g, 36, .inl (F 6)) := (hM).2.2.2.2.2.2.2.1
  have m_1r7 : ct 247 = .inl (fcI g, 20, .inl (F 7)) := (hM).2.2.2.2.2.2.2.2.1
  have m_1r8 : ct 248 = .inl (fcI g, 20, .inl (F 8)) := (hM).2.2.2.2.2.2.2.2.2
  have hn3 := hG.n3
  have hn6 := hG.n6
  have hk20 := hG.k
  refine lv_aload_n hx hb dX8_look_0 rfl (lv_at hl 0 rfl) ?_
  refine lv_iload_n hx hb dX8_look_1 rfl (lv_at hl 1 rfl) ?_
  refine fs_pi (va_runV (As := [.int x]) (rest := []) E.1 (c_X8_isBox l g N ct z F σ (by omega) hG hM hT x) (lk_RX8_57 E.1.2.2.2.2 ⟨Nat.le_of_ble_eq_true rfl, Nat.le_of_ble_eq_true rfl⟩) (fpreV E hP hS fc8 m_1o (by omega)) rfl rfl hl.1 rfl (lv_room (Nat.le_of_ble_eq_true rfl)) dX8_look_2 ⟨Nat.zero_le _, Nat.zero_le _⟩) hS (fun r_2 locs p_2 hS => ?_)
  refine lv_if_eq (tgt := 16) hx hb dX8_look_5 (by decide) (fun c_5 => ?_) (fun c_5 => ?_)
  · have c_5 := (fb_0 p_2).mp c_5
    refine lv_iconst (v := (-1)) hx hb dX8_look_16 (by decide) ?_
    refine fs_iret E hr hlk hP hS dX8_look_17 ?_
    refine ⟨?_, RFc_f (fun z => by have := z.1; omega) hR, fSame.rf⟩
    rw [if_neg (fun z => by omega)]
  · have c_5 := (fb_1 p_2).mp c_5
    refine lv_aload_n hx hb dX8_look_8 rfl (lv_at hl 0 rfl) ?_
    refine lv_iload_n hx hb dX8_look_9 rfl (lv_at hl 2 rfl) ?_
    refine fs_pi (va_runV (As := [.int y]) (rest := []) E.1 (c_X8_isBox l g N ct z F σ (by omega) hG hM hT y) (lk_RX8_57 E.1.2.2.2.2 ⟨Nat.le_of_ble_eq_true rfl, Nat.le_of_ble_eq_true rfl⟩) (fpreV E hP hS fc8 m_1o (by omega)) rfl rfl hl.1 rfl (lv_room (Nat.le_of_ble_eq_true rfl)) dX8_look_10 ⟨Nat.zero_le _, Nat.zero_le _⟩) hS (fun r_10 locs p_10 hS => ?_)
    refine lv_if_ne (tgt := 18) hx hb dX8_look_13 (by decide) (fun c_13 => ?_) (fun c_13 => ?_)
    · have c_13 := (fb_1 p_10).mp c_13
      refine lv_iload_n hx hb dX8_look_18 rfl (lv_at hl 1 rfl) ?_
      refine lv_iload_n hx hb dX8_look_19 rfl (lv_at hl 2 rfl) ?_
      refine lv_icmp_ne (tgt := 26) hx hb dX8_look_20 (by decide) (fun c_20 => ?_) (fun c_20 => ?_)
      · obtain ⟨p0, hp0, rfl⟩ := fex c_5.1 c_5.2
        obtain ⟨q0, hq0, rfl⟩ := fex c_13.1 c_13.2
        refine lv_aload_n hx hb dX8_look_26 rfl (lv_at hl 0 rfl) ?_
        refine fs_v (va_runV (As := []) (rest := []) E.1 (c_X8_record l g N ct z F σ (by omega) hG hM hT k hs hH) (lk_RX8_105 E.1.2.2.2.2 ⟨Nat.le_of_ble_eq_true rfl, Nat.le_of_ble_eq_true rfl⟩) (fpreV E hP hS fc8 m_1o (by omega)) rfl rfl hl.1 rfl (lv_room (Nat.le_of_ble_eq_true rfl)) dX8_look_27 ⟨Nat.zero_le _, Nat.zero_le _⟩) hS (fun ct_2 H locs p_27 hP hS => ?_)
        obtain ⟨z_3, F_4, M5, hRH5, e5, f50, f52, f53, f54, S_5⟩ := p_27
        have T_6 : SR σ F_4 := fun i hi => by rw [f50]; exact hT i hi
        have m_7o : ct_2 239 = .inr (8, [.ref (fa g 240), .ref (fa g 241), .int (z_3 0), .ref (fa g 242), .ref (fa g 243), .ref (fa g 244), .int (z_3 1), .ref (fa g 245), .int (z_3 2), .ref (fa g 246), .ref (fa g 247), .ref (fa g 248), .int (z_3 3), .int (z_3 4), .int (z_3 5), .int (z_3 6), .int (z_3 7), .int (z_3 8), .int (z_3 9)]) := (M5).1
        have m_7r0 : ct_2 240 = .inl (fcI g, 121, .inl (F_4 0)) := (M5).2.1
        have m_7r1 : ct_2 241 = .inl (fcI g, 726, .inl (F_4 1)) := (M5).2.2.1
        have m_7r2 : ct_2 242 = .inl (fcI g, 242, .inl (F_4 2)) := (M5).2.2.2.1
        have m_7r3 : ct_2 243 = .inl (fcI g, 2, .inl (F_4 3)) := (M5).2.2.2.2.1
        have m_7r4 : ct_2 244 = .inl (fcI g, 60, .inl (F_4 4)) := (M5).2.2.2.2.2.1
        have m_7r5 : ct_2 245 = .inl (fcI g, 6, .inl (F_4 5)) := (M5).2.2.2.2.2.2.1
        have m_7r6 : ct_2 246 = .inl (fcI g, 36, .inl (F_4 6)) := (M5).2.2.2.2.2.2.2.1
        have m_7r7 : ct_2 247 = .inl (fcI g, 20, .inl (F_4 7)) := (M5).2.2.2.2.2.2.2.2.1
        have m_7r8 : ct_2 248 = .inl (fcI g, 20, .inl (F_4 8)) := (M5).2.2.2.2.2.2.2.2.2
        refine lv_aload_n hx hb dX8_look_30 rfl (lv_at hl 0 rfl) ?_
        refine fs_get E hP (k := 239) (v := .ref (fa g 240)) 0 fc8 m_7o (by omega) (by decide) (wm wl_5 (i := 0) rfl) rfl dX8_look_31 ?_
        refine lv_iconst (v := (nI 3)) hx hb dX8_look_34 (by decide) ?_
        refine lv_iload_n hx hb dX8_look_35 rfl (lv_at hl 1 rfl) ?_
        refine lv_iadd hx hb dX8_look_36 ?_
        refine fs_vi (y := nI (3 + p0)) (nI_add _ _) ?_
        refine fs_iald E hP (k := 240) m_7r0 (by omega) (vp_in_nI (by omega) (by omega)) dX8_look_37 ?_
        refine fs_vi (y := (F_4 0) (3 + p0)) (congrArg (F_4 0) (nI_clamp (by omega))) ?_
        refine fs_vi (y := (nI (lkf σ p0))) ((T_6 _ (by omega)).trans (hG.2.2.1 p0 hp0).1) ?_
        refine lv_istore_n (lv' := [(3, .int (nI (lkf σ p0))), (0, .ref (fa g 239)), (1, .int (nI p0)), (2, .int (nI q0))]) hx hb dX8_look_38 rfl hl (by decide) rfl (fun ls hl => ?_)
        refine lv_aload_n hx hb dX8_look_39 rfl (lv_at hl 1 rfl) ?_
        refine fs_get E hP (k := 239) (v := .ref (fa g 240)) 0 fc8 m_7o (by omega) (by decide) (wm wl_5 (i := 0) rfl) rfl dX8_look_40 ?_
        refine lv_iconst (v := (nI 3)) hx hb dX8_look_43 (by decide) ?_
        refine lv_iload_n hx hb dX8_look_44 rfl (lv_at hl 2 rfl) ?_
        refine lv_iadd hx hb dX8_look_45 ?_
        refine fs_vi (y := nI (3 + p0)) (nI_add _ _) ?_
        refine lv_iload_n hx hb dX8_look_46 rfl (lv_at hl 3 rfl) ?_
        refine fs_iast E hP hS (k := 240) m_7r0 (by omega) (vp_in_nI (by omega) (by omega)) dX8_look_47 (fun ct_8 H locs q_9 hP hS => ?_)
        rw [nI_clamp (by omega)] at q_9
        have h_10 : ct_8 239 = .inr (8, [.ref (fa g 240), .ref (fa g 241), .int (z_3 0), .ref (fa g 242), .ref (fa g 243), .ref (fa g 244), .int (z_3 1), .ref (fa g 245), .int (z_3 2), .ref (fa g 246), .ref (fa g 247), .ref (fa g 248), .int (z_3 3), .int (z_3 4), .int (z_3 5), .int (z_3 6), .int (z_3 7), .int (z_3 8), .int (z_3 9)]) := by rw [q_9]; exact (fu_ne (by omega)).trans m_7o
        have h_11 : ct_8 240 = .inl (fcI g, 121, .inl (upd (F_4 0) (3 + p0) (nI q0))) := by rw [q_9]; exact fu_eq _ _ _
        have h_12 : ct_8 241 = .inl (fcI g, 726, .inl (F_4 1)) := by rw [q_9]; exact (fu_ne (by omega)).trans m_7r1
        have h_13 : ct_8 242 = .inl (fcI g, 242, .inl (F_4 2)) := by rw [q_9]; exact (fu_ne (by omega)).trans m_7r2
        have h_14 : ct_8 243 = .inl (fcI g, 2, .inl (F_4 3)) := by rw [q_9]; exact (fu_ne (by omega)).trans m_7r3
        have h_15 : ct_8 244 = .inl (fcI g, 60, .inl (F_4 4)) := by rw [q_9]; exact (fu_ne (by omega)).trans m_7r4
        have h_16 : ct_8 245 = .inl (fcI g, 6, .inl (F_4 5)) := by rw [q_9]; exact (fu_ne (by omega)).trans m_7r5
        have h_17 : ct_8 246 = .inl (fcI g, 36, .inl (F_4 6)) := by rw [q_9]; exact (fu_ne (by omega)).trans m_7r6
        have h_18 : ct_8 247 = .inl (fcI g, 20, .inl (F_4 7)) := by rw [q_9]; exact (fu_ne (by omega)).trans m_7r7
        have h_19 : ct_8 248 = .inl (fcI g, 20, .inl (F_4 8)) := by rw [q_9]; exact (fu_ne (by omega)).trans m_7r8
        refine lv_iload_n hx hb dX8_look_48 rfl (lv_at hl 0 rfl) ?_
        have MA8 : MA g ct_8 (mkz (z_3 0) (z_3 1) (z_3 2) (z_3 3) (z_3 4) (z_3 5) (z_3 6) (z_3 7) (z_3 8) (z_3 9)) (mkF (upd (F_4 0) (3 + p0) (nI q0)) (F_4 1) (F_4 2) (F_4 3) (F_4 4) (F_4 5) (F_4 6) (F_4 7) (F_4 8)) := ⟨h_10, h_11, h_12, h_13, h_14, h_15, h_16, h_17, h_18, h_19⟩
        refine fs_iret E hr hlk hP hS dX8_look_49 ?_
        rw [nI_cl (show p0 < 1000000 by omega)]
        refine ⟨?_, RFc_t (⟨⟨c_5, c_13⟩, c_20⟩) (RFAt.ch hS9 hQ MA8 (fun i hi => upd_cg (T_6 i hi)) hRH5 e5 f52 f53 f54), (show fSame 239 249 _ _ from (fSame.ap (fSame.tr2 fSame.rf S_5 (by omega) (by omega)) q_9 (by omega) (by omega)))⟩
        rw [if_pos ⟨c_5, c_13⟩, if_neg c_20]
      · refine lv_bipush (v := (-2)) hx hb dX8_look_23 (by decide) ?_
        refine fs_iret E hr hlk hP hS dX8_look_25 ?_
        refine ⟨?_, RFc_f (fun z => z.2 c_20) hR, fSame.rf⟩
        rw [if_pos ⟨c_5, c_13⟩, if_pos c_20]
    · have c_13 := (fb_0 p_10).mp c_13
      refine lv_iconst (v := (-1)) hx hb dX8_look_16 (by decide) ?_
      refine fs_iret E hr hlk hP hS dX8_look_17 ?_
      refine ⟨?_, RFc_f (fun z => by have := z.1; omega) hR, fSame.rf⟩
      rw [if_neg (fun z => by omega)]

set_option maxRecDepth 100000 in
set_option maxHeartbeats 4000000 in
theorem c_X8_tell (l : Launch) (g : fG) (N : Nat) (ct : Nat → va_E) (σ : Nat → Int32) (k : Nat) (hs : Nat → Nat → Int32) (u1 : Bool) (s1 : Nat → Int32) (u2 : Bool) (s2 : Nat → Int32) (t : Nat → Nat) (len : Nat) (hN : 249 ≤ N) (hG : Good σ) (hR : RFAt g ct σ k hs u1 s1 u2 s2 t len) (x y v v4 : Int32) : Met l yX8_tell (wsU yX8_tell cX8_tell 5 (some .int)) rX8_tell (fPre g N ct [.ref (fa g 239), .int x, .int y, .int v, .int v4]) (fQi g N (fun r ct1 => r = (if hbx σ x then (if sux (nB σ) y v v4 then (if nT σ + 1 ≤ 20 then nI (nT σ) else -4) else -2) else -1) ∧ RFc g ct1 (hbx σ x ∧ sux (nB σ) y v v4 ∧ nT σ + 1 ≤ 20) (sTell σ x.toNatClampNeg y.toNatClampNeg v.toNatClampNeg v4.toNatClampNeg) σ k hs u1 s1 u2 s2 t len ∧ fSame 239 249 ct ct1)) 0 0 (fB g) := by
  refine fs_start (own := RX8) (lv0 := [(0, .ref (fa g 239)), (1, .int x), (2, .int y), (3, .int v), (4, .int v4)]) (by decide) rfl (Nat.le_of_ble_eq_true rfl) rfl ?_
  intro p e s m args below meth c ls E hr hlk hnm hP hl hS
  have hx := E.1.1
  have hb := E.1.2.1
  obtain ⟨z, F, hM, hT, hH, hS9, hQ⟩ := id hR
  have m_1o : ct 239 = .inr (8, [.ref (fa g 240), .ref (fa g 241), .int (z 0), .ref (fa g 242), .ref (fa g 243), .ref (fa g 244), .int (z 1), .ref (fa g 245), .int (z 2), .ref (fa g 246), .ref (fa g 247), .ref (fa g 248), .int (z 3), .int (z 4), .int (z 5), .int (z 6), .int (z 7), .int (z 8), .int (z 9)]) := (hM).1
  have m_1r0 : ct 240 = .inl (fcI g, 121, .inl (F 0)) := (hM).2.1
  have m_1r1 : ct 241 = .inl (fcI g, 726, .inl (F 1)) := (hM).2.2.1
  have m_1r2 : ct 242 = .inl (fcI g, 242, .inl (F 2)) := (hM).2.2.2.1
  have m_1r3 : ct 243 = .inl (fcI g, 2, .inl (F 3)) := (hM).2.2.2.2.1
  have m_1r4 : ct 244 = .inl (fcI g, 60, .inl (F 4)) := (hM).2.2.2.2.2.1
  have m_1r5 : ct 245 = .inl (fcI g, 6, .inl (F 5)) := (hM).2.2.2.2.2.2.1
  have m_1r6 : ct 246 = .inl (fcI g, 36, .inl (F 6)) := (hM).2.2.2.2.2.2.2.1
  have m_1r7 : ct 247 = .inl (fcI g, 20, .inl (F 7)) := (hM).2.2.2.2.2.2.2.2.1
  have m_1r8 : ct 248 = .inl (fcI g, 20, .inl (F 8)) := (hM).2.2.2.2.2.2.2.2.2
  have hn3 := hG.n3
  have hn6 := hG.n6
  have hk20 := hG.k
  refine lv_aload_n hx hb dX8_tell_0 rfl (lv_at hl 0 rfl) ?_
  refine lv_iload_n hx hb dX8_tell_1 rfl (lv_at hl 1 rfl) ?_
  refine fs_pi (va_runV (As := [.int x]) (rest := []) E.1 (c_X8_isBox l g N ct z F σ (by omega) hG hM hT x) (lk_RX8_57 E.1.2.2.2.2 ⟨Nat.le_of_ble_eq_true rfl, Nat.le_of_ble_eq_true rfl⟩) (fpreV E hP hS fc8 m_1o (by omega)) rfl rfl hl.1 rfl (lv_room (Nat.le_of_ble_eq_true rfl)) dX8_tell_2 ⟨Nat.zero_le _, Nat.zero_le _⟩) hS (fun r_2 locs p_2 hS => ?_)
  refine lv_if_ne (tgt := 10) hx hb dX8_tell_5 (by decide) (fun c_5 => ?_) (fun c_5 => ?_)
  · have c_5 := (fb_1 p_2).mp c_5
    refine lv_aload_n hx hb dX8_tell_10 rfl (lv_at hl 0 rfl) ?_
    refine lv_iload_n hx hb dX8_tell_11 rfl (lv_at hl 2 rfl) ?_
    refine lv_iload_n hx hb dX8_tell_12 rfl (lv_at hl 3 rfl) ?_
    refine lv_iload hx hb dX8_tell_13 (lv_at hl 4 rfl) ?_
    refine fs_pi (va_runV (As := [.int y, .int v, .int v4]) (rest := []) E.1 (c_X8_suits l g N ct z F σ (by omega) hG hM hT y v v4) (lk_RX8_108 E.1.2.2.2.2 ⟨Nat.le_of_ble_eq_true rfl, Nat.le_of_ble_eq_true rfl⟩) (fpreV E hP hS fc8 m_1o (by omega)) rfl rfl hl.1 rfl (lv_room (Nat.le_of_ble_eq_true rfl)) dX8_tell_15 ⟨Nat.zero_le _, Nat.zero_le _⟩) hS (fun r_15 locs p_15 hS => ?_)
    refine lv_if_ne (tgt := 24) hx hb dX8_tell_18 (by decide) (fun c_18 => ?_) (fun c_18 => ?_)
    · have c_18 := (fb_1 p_15).mp c_18
      refine lv_aload_n hx hb dX8_tell_24 rfl (lv_at hl 0 rfl) ?_
      refine fs_get E hP (k := 239) (v := .ref (fa g 240)) 0 fc8 m_1o (by omega) (by decide) (wm wl_5 (i := 0) rfl) rfl dX8_tell_25 ?_
      refine lv_iconst (v := (nI 1)) hx hb dX8_tell_28 (by decide) ?_
      refine fs_iald E hP (k := 240) m_1r0 (by omega) (vp_in_nI (by omega) (by omega)) dX8_tell_29 ?_
      refine fs_vi (y := (F 0) 1) (congrArg (F 0) (nI_clamp (by omega))) ?_
      refine fs_vi (y := (nI (nT σ))) (hT.k hG) ?_
      refine lv_bipush (v := (nI 20)) hx hb dX8_tell_30 (by decide) ?_
      refine lv_icmp_ne (tgt := 38) hx hb dX8_tell_32 (by decide) (fun c_32 => ?_) (fun c_32 => ?_)
      · rw [nI_eq (by omega) (by omega)] at c_32
        obtain ⟨p0, hp0, rfl⟩ := fex c_5.1 c_5.2
        obtain ⟨kd, a0, b0, rfl, rfl, rfl, hok⟩ := sux_ok (by omega) c_18
        have hok1 := hok.1
        have hok2 := hok.2.1
        have hok3 : b0 ≤ 6 := by have := hok.2.2.1; have := hok.2.2.2; omega
        refine lv_aload_n hx hb dX8_tell_38 rfl (lv_at hl 0 rfl) ?_
        refine fs_v (va_runV (As := []) (rest := []) E.1 (c_X8_record l g N ct z F σ (by omega) hG hM hT k hs hH) (lk_RX8_105 E.1.2.2.2.2 ⟨Nat.le_of_ble_eq_true rfl, Nat.le_of_ble_eq_true rfl⟩) (fpreV E hP hS fc8 m_1o (by omega)) rfl rfl hl.1 rfl (lv_room (Nat.le_of_ble_eq_true rfl)) dX8_tell_39 ⟨Nat.zero_le _, Nat.zero_le _⟩) hS (fun ct_2 H locs p_39 hP hS => ?_)
        obtain ⟨z_3, F_4, M5, hRH5, e5, f50, f52, f53, f54, S_5⟩ := p_39
        have T_6 : SR σ F_4 := fun i hi => by rw [f50]; exact hT i hi
        have m_7o : ct_2 239 = .inr (8, [.ref (fa g 240), .ref (fa g 241), .int (z_3 0), .ref (fa g 242), .ref (fa g 243), .ref (fa g 244), .int (z_3 1), .ref (fa g 245), .int (z_3 2), .ref (fa g 246), .ref (fa g 247), .ref (fa g 248), .int (z_3 3), .int (z_3 4), .int (z_3 5), .int (z_3 6), .int (z_3 7), .int (z_3 8), .int (z_3 9)]) := (M5).1
        have m_7r0 : ct_2 240 = .inl (fcI g, 121, .inl (F_4 0)) := (M5).2.1
        have m_7r1 : ct_2 241 = .inl (fcI g, 726, .inl (F_4 1)) := (M5).2.2.1
        have m_7r2 : ct_2 242 = .inl (fcI g, 242, .inl (F_4 2)) := (M5).2.2.2.1
        have m_7r3 : ct_2 243 = .inl (fcI g, 2, .inl (F_4 3)) := (M5).2.2.2.2.1
        have m_7r4 : ct_2 244 = .inl (fcI g, 60, .inl (F_4 4)) := (M5).2.2.2.2.2.1
        have m_7r5 : ct_2 245 = .inl (fcI g, 6, .inl (F_4 5)) := (M5).2.2.2.2.2.2.1
        have m_7r6 : ct_2 246 = .inl (fcI g, 36, .inl (F_4 6)) := (M5).2.2.2.2.2.2.2.1
        have m_7r7 : ct_2 247 = .inl (fcI g, 20, .inl (F_4 7)) := (M5).2.2.2.2.2.2.2.2.1
        have m_7r8 : ct_2 248 = .inl (fcI g, 20, .inl (F_4 8)) := (M5).2.2.2.2.2.2.2.2.2
        refine lv_aload_n hx hb dX8_tell_42 rfl (lv_at hl 0 rfl) ?_
        refine lv_iload_n hx hb dX8_tell_43 rfl (lv_at hl 1 rfl) ?_
        refine lv_iload_n hx hb dX8_tell_44 rfl (lv_at hl 2 rfl) ?_
        refine lv_iload_n hx hb dX8_tell_45 rfl (lv_at hl 3 rfl) ?_
        refine lv_iload hx hb dX8_tell_46 (lv_at hl 4 rfl) ?_
        refine fs_i (va_runV (As := [.int (nI p0), .int (nI kd), .int (nI a0), .int (nI b0)]) (rest := []) E.1 (c_X8_tells l g N ct_2 z_3 F_4 σ (by omega) hG M5 T_6 p0 kd a0 b0 (by omega)) (lk_RX8_111 E.1.2.2.2.2 ⟨Nat.le_of_ble_eq_true rfl, Nat.le_of_ble_eq_true rfl⟩) (fpreV E hP hS fc8 m_7o (by omega)) rfl rfl hl.1 rfl (lv_room (Nat.le_of_ble_eq_true rfl)) dX8_tell_48 ⟨Nat.zero_le _, Nat.zero_le _⟩) hS (fun r_48 ct_8 H locs p_48 hP hS => ?_)
        refine fs_vi (y := (nI (nT σ))) p_48.1 ?_
        obtain ⟨fb5, eb5, hb5⟩ := p_48.2
        have M_9 := MA.f0 M5 eb5
        have m_11o : ct_8 239 = .inr (8, [.ref (fa g 240), .ref (fa g 241), .int (z_3 0), .ref (fa g 242), .ref (fa g 243), .ref (fa g 244), .int (z_3 1), .ref (fa g 245), .int (z_3 2), .ref (fa g 246), .ref (fa g 247), .ref (fa g 248), .int (z_3 3), .int (z_3 4), .int (z_3 5), .int (z_3 6), .int (z_3 7), .int (z_3 8), .int (z_3 9)]) := (M_9).1
        have m_11r0 : ct_8 240 = .inl (fcI g, 121, .inl fb5) := (M_9).2.1
        have m_11r1 : ct_8 241 = .inl (fcI g, 726, .inl (F_4 1)) := (M_9).2.2.1
        have m_11r2 : ct_8 242 = .inl (fcI g, 242, .inl (F_4 2)) := (M_9).2.2.2.1
        have m_11r3 : ct_8 243 = .inl (fcI g, 2, .inl (F_4 3)) := (M_9).2.2.2.2.1
        have m_11r4 : ct_8 244 = .inl (fcI g, 60, .inl (F_4 4)) := (M_9).2.2.2.2.2.1
        have m_11r5 : ct_8 245 = .inl (fcI g, 6, .inl (F_4 5)) := (M_9).2.2.2.2.2.2.1
        have m_11r6 : ct_8 246 = .inl (fcI g, 36, .inl (F_4 6)) := (M_9).2.2.2.2.2.2.2.1
        have m_11r7 : ct_8 247 = .inl (fcI g, 20, .inl (F_4 7)) := (M_9).2.2.2.2.2.2.2.2.1
        have m_11r8 : ct_8 248 = .inl (fcI g, 20, .inl (F_4 8)) := (M_9).2.2.2.2.2.2.2.2.2
        have MA8 : MA g ct_8 (mkz (z_3 0) (z_3 1) (z_3 2) (z_3 3) (z_3 4) (z_3 5) (z_3 6) (z_3 7) (z_3 8) (z_3 9)) (mkF fb5 (F_4 1) (F_4 2) (F_4 3) (F_4 4) (F_4 5) (F_4 6) (F_4 7) (F_4 8)) := ⟨m_11o, m_11r0, m_11r1, m_11r2, m_11r3, m_11r4, m_11r5, m_11r6, m_11r7, m_11r8⟩
        refine fs_iret E hr hlk hP hS dX8_tell_51 ?_
        rw [nI_cl (show p0 < 1000000 by omega)]
        rw [nI_cl (show kd < 1000000 by omega)]
        rw [nI_cl (show a0 < 1000000 by omega)]
        rw [nI_cl (show b0 < 1000000 by omega)]
        refine ⟨?_, RFc_t (⟨c_5, c_18, by omega⟩) (RFAt.ch hS9 hQ MA8 (fun i hi => hb5 i hi) hRH5 e5 f52 f53 f54), (show fSame 239 249 _ _ from (fSame.ap (fSame.tr2 fSame.rf S_5 (by omega) (by omega)) eb5 (by omega) (by omega)))⟩
        rw [if_pos c_5, if_pos c_18, if_pos (by omega)]
      · rw [nI_eq (by omega) (by omega)] at c_32
        refine lv_bipush (v := (-4)) hx hb dX8_tell_35 (by decide) ?_
        refine fs_iret E hr hlk hP hS dX8_tell_37 ?_
        refine ⟨?_, RFc_f (fun z => by have := z.2.2; omega) hR, fSame.rf⟩
        rw [if_pos c_5, if_pos c_18, if_neg (by omega)]
    · have c_18 := (fb_0 p_15).mp c_18
      refine lv_bipush (v := (-2)) hx hb dX8_tell_21 (by decide) ?_
      refine fs_iret E hr hlk hP hS dX8_tell_23 ?_
      refine ⟨?_, RFc_f (fun z => c_18 z.2.1) hR, fSame.rf⟩
      rw [if_pos c_5, if_neg c_18]
  · have c_5 := (fb_0 p_2).mp c_5
    refine lv_iconst (v := (-1)) hx hb dX8_tell_8 (by decide) ?_
    refine fs_iret E hr hlk hP hS dX8_tell_9 ?_
    refine ⟨?_, RFc_f (fun z => c_5 z.1) hR, fSame.rf⟩
    rw [if_neg c_5]

set_option maxRecDepth 100000 in
set_option maxHeartbeats 4000000 in
theorem c_X8_wipe (l : Launch) (g : fG) (N : Nat) (ct : Nat → va_E) (σ : Nat → Int32) (k : Nat) (hs : Nat → Nat → Int32) (u1 : Bool) (s1 : Nat → Int32) (u2 : Bool) (s2 : Nat → Int32) (t : Nat → Nat) (len : Nat) (hN : 249 ≤ N) (hG : Good σ) (hR : RFAt g ct σ k hs u1 s1 u2 s2 t len) : Met l yX8_wipe (wsU yX8_wipe cX8_wipe 2 (some .int)) rX8_wipe (fPre g N ct [.ref (fa g 239)]) (fQi g N (fun r ct1 => r = nI len ∧ RFAt g ct1 σ k hs u1 s1 u2 s2 t 0 ∧ fSame 239 249 ct ct1)) 0 0 (fB g) := by
  refine fs_start (own := RX8) (lv0 := [(0, .ref (fa g 239))]) (by decide) rfl (Nat.le_of_ble_eq_true rfl) rfl ?_
  intro p e s m args below meth c ls E hr hlk hnm hP hl hS
  have hx := E.1.1
  have hb := E.1.2.1
  obtain ⟨z, F, hM, hT, hH, hS9, hQ⟩ := id hR
  have m_1o : ct 239 = .inr (8, [.ref (fa g 240), .ref (fa g 241), .int (z 0), .ref (fa g 242), .ref (fa g 243), .ref (fa g 244), .int (z 1), .ref (fa g 245), .int (z 2), .ref (fa g 246), .ref (fa g 247), .ref (fa g 248), .int (z 3), .int (z 4), .int (z 5), .int (z 6), .int (z 7), .int (z 8), .int (z 9)]) := (hM).1
  have m_1r0 : ct 240 = .inl (fcI g, 121, .inl (F 0)) := (hM).2.1
  have m_1r1 : ct 241 = .inl (fcI g, 726, .inl (F 1)) := (hM).2.2.1
  have m_1r2 : ct 242 = .inl (fcI g, 242, .inl (F 2)) := (hM).2.2.2.1
  have m_1r3 : ct 243 = .inl (fcI g, 2, .inl (F 3)) := (hM).2.2.2.2.1
  have m_1r4 : ct 244 = .inl (fcI g, 60, .inl (F 4)) := (hM).2.2.2.2.2.1
  have m_1r5 : ct 245 = .inl (fcI g, 6, .inl (F 5)) := (hM).2.2.2.2.2.2.1
  have m_1r6 : ct 246 = .inl (fcI g, 36, .inl (F 6)) := (hM).2.2.2.2.2.2.2.1
  have m_1r7 : ct 247 = .inl (fcI g, 20, .inl (F 7)) := (hM).2.2.2.2.2.2.2.2.1
  have m_1r8 : ct 248 = .inl (fcI g, 20, .inl (F 8)) := (hM).2.2.2.2.2.2.2.2.2
  have hn3 := hG.n3
  have hn6 := hG.n6
  have hk20 := hG.k
  refine lv_aload_n hx hb dX8_wipe_0 rfl (lv_at hl 0 rfl) ?_
  refine fs_get E hP (k := 239) (v := .int (z 1)) 6 fc8 m_1o (by omega) (by decide) (wm wl_16 (i := 13) rfl) rfl dX8_wipe_1 ?_
  refine lv_istore_n (lv' := [(1, .int (z 1)), (0, .ref (fa g 239))]) hx hb dX8_wipe_4 rfl hl (by decide) rfl (fun ls hl => ?_)
  refine lv_aload_n hx hb dX8_wipe_5 rfl (lv_at hl 1 rfl) ?_
  refine lv_iconst (v := (nI 0)) hx hb dX8_wipe_6 (by decide) ?_
  refine fs_put E hP hS (k := 239) 6 fc8 m_1o (by omega) (by decide) (wm wl_16 (i := 13) rfl) rfl rfl rfl rfl (Nat.le_of_ble_eq_true rfl) dX8_wipe_7 (fun ct_2 H locs q_3 hP hS => ?_)
  have h_4 : ct_2 239 = .inr (8, [.ref (fa g 240), .ref (fa g 241), .int (z 0), .ref (fa g 242), .ref (fa g 243), .ref (fa g 244), .int (nI 0), .ref (fa g 245), .int (z 2), .ref (fa g 246), .ref (fa g 247), .ref (fa g 248), .int (z 3), .int (z 4), .int (z 5), .int (z 6), .int (z 7), .int (z 8), .int (z 9)]) := by rw [q_3]; exact fu_eq _ _ _
  have h_5 : ct_2 240 = .inl (fcI g, 121, .inl (F 0)) := by rw [q_3]; exact (fu_ne (by omega)).trans m_1r0
  have h_6 : ct_2 241 = .inl (fcI g, 726, .inl (F 1)) := by rw [q_3]; exact (fu_ne (by omega)).trans m_1r1
  have h_7 : ct_2 242 = .inl (fcI g, 242, .inl (F 2)) := by rw [q_3]; exact (fu_ne (by omega)).trans m_1r2
  have h_8 : ct_2 243 = .inl (fcI g, 2, .inl (F 3)) := by rw [q_3]; exact (fu_ne (by omega)).trans m_1r3
  have h_9 : ct_2 244 = .inl (fcI g, 60, .inl (F 4)) := by rw [q_3]; exact (fu_ne (by omega)).trans m_1r4
  have h_10 : ct_2 245 = .inl (fcI g, 6, .inl (F 5)) := by rw [q_3]; exact (fu_ne (by omega)).trans m_1r5
  have h_11 : ct_2 246 = .inl (fcI g, 36, .inl (F 6)) := by rw [q_3]; exact (fu_ne (by omega)).trans m_1r6
  have h_12 : ct_2 247 = .inl (fcI g, 20, .inl (F 7)) := by rw [q_3]; exact (fu_ne (by omega)).trans m_1r7
  have h_13 : ct_2 248 = .inl (fcI g, 20, .inl (F 8)) := by rw [q_3]; exact (fu_ne (by omega)).trans m_1r8
  refine lv_iload_n hx hb dX8_wipe_10 rfl (lv_at hl 0 rfl) ?_
  have MA8 : MA g ct_2 (mkz (z 0) (nI 0) (z 2) (z 3) (z 4) (z 5) (z 6) (z 7) (z 8) (z 9)) (mkF (F 0) (F 1) (F 2) (F 3) (F 4) (F 5) (F 6) (F 7) (F 8)) := ⟨h_4, h_5, h_6, h_7, h_8, h_9, h_10, h_11, h_12, h_13⟩
  refine fs_iret E hr hlk hP hS dX8_wipe_11 ?_
  exact ⟨hQ.1, ⟨_, _, MA8, hT, hH, hS9, ⟨rfl, by omega, fun i hi => absurd hi (by omega)⟩⟩, (show fSame 239 249 _ _ from (fSame.ap fSame.rf q_3 (by omega) (by omega)))⟩
