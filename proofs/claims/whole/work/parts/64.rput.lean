theorem tln_z {v i : Nat} (h : 8 ≤ i ∨ byv v i = 0) (hi : i = 0) : tln v = 0 := by
  subst hi
  by_cases y : rs v 0 = 0
  · exact tln_hit (by omega) ⟨fun j hj => absurd hj (by omega), y⟩
  · exact tln_rest h y
theorem tln_no {v i : Nat} (h0 : ∀ j, j < i → ¬ byv v j = 0) (h : ¬ ∀ j, j < i → 33 ≤ byv v j ∧ byv v j ≤ 126) : tln v = 0 := by
  by_cases y : ∃ j, j < i ∧ ¬ (33 ≤ byv v j ∧ byv v j ≤ 126)
  · obtain ⟨j, hj, y⟩ := y; exact tln_bad (h0 j hj) y
  · exact absurd (fun j hj => Classical.byContradiction (fun z => y ⟨j, hj, z⟩)) h
theorem bI_s {v i : Nat} (h : 33 ≤ byv v i ∧ byv v i ≤ 126) : bI (∀ j, j < i → 33 ≤ byv v j ∧ byv v j ≤ 126) = bI (∀ j, j < i + 1 → 33 ≤ byv v j ∧ byv v j ≤ 126) :=
  bI_iff ⟨fun a j hj => if y : j = i then y ▸ h else a j (by omega), fun a j hj => a j (by omega)⟩
set_option maxRecDepth 100000 in
set_option maxHeartbeats 4000000 in
theorem c_X8_put (l : Launch) (g : fG) (N : Nat) (ct : Nat → va_E) (σ : Nat → Int32) (k : Nat) (hs : Nat → Nat → Int32) (u1 : Bool) (s1 : Nat → Int32) (u2 : Bool) (s2 : Nat → Int32) (t : Nat → Nat) (len : Nat) (hN : 249 ≤ N) (hG : Good σ) (hR : RFAt g ct σ k hs u1 s1 u2 s2 t len) (v : Nat) (hv : v < 2 ^ 64) : Met l yX8_put (wsU yX8_put cX8_put 8 (some .int)) rX8_put (fPre g N ct [.ref (fa g 239), .long (lN v)]) (fQi g N (fun r ct1 => r = (if tln v = 0 then -2 else if len + tln v ≤ 60 then nI (len + tln v) else -4) ∧ RFAt g ct1 σ k hs u1 s1 u2 s2 (if ¬ tln v = 0 ∧ len + tln v ≤ 60 then ptT t len v else t) (if ¬ tln v = 0 ∧ len + tln v ≤ 60 then len + tln v else len) ∧ fSame 239 249 ct ct1)) 0 0 (fB g) := by
  refine fs_start (own := RX8) (lv0 := [(0, .ref (fa g 239)), (1, .long (lN v))]) (by decide) rfl (Nat.le_of_ble_eq_true rfl) rfl ?_
  intro p e s m args below meth c ls E hr hlk hnm hP hl hS
  have hx := E.1.1
  have hb := E.1.2.1
  obtain ⟨z, F, hM, hT, hH, hS9, hQ⟩ := id hR
  have m_1o : ct 239 = .inr (8, [.ref (fa g 240), .ref (fa g 241), .int (z 0), .ref (fa g 242), .ref (fa g 243), .ref (fa g 244), .int (z 1), .ref (fa g 245), .int (z 2), .ref (fa g 246), .ref (fa g 247), .ref (fa g 248), .int (z 3), .int (z 4), .int (z 5), .int (z 6), .int (z 7), .int (z 8), .int (z 9)]) := (hM).1
  have m_1r0 : ct 240 = .inl (fcI g, 121, .inl (F 0)) := (hM).2.1
  have m_1r1 : ct 241 = .inl (fcI g, 726, .inl (F 1)) := (hM).2.2.1
  have m_1r2 : ct 242 = .inl (fcI g, 242, .inl (F 2)) := (hM).2.2.2.1
  have m_1r3 : ct 243 = .inl (fcI g, 2, .inl (F 3)) := (hM).2.2.2.2.1
  have m_1r4 : ct 244 = .inl (fcI g, 60, .inl (F 4)) := (hM).2.2.2.2.2.1
  have m_1r5 : ct 245 = .inl (fcI g, 6, .inl (F 5)) := (hM).2.2.2.2.2.2.1
  have m_1r6 : ct 246 = .inl (fcI g, 36, .inl (F 6)) := (hM).2.2.2.2.2.2.2.1
  have m_1r7 : ct 247 = .inl (fcI g, 20, .inl (F 7)) := (hM).2.2.2.2.2.2.2.2.1
  have m_1r8 : ct 248 = .inl (fcI g, 20, .inl (F 8)) := (hM).2.2.2.2.2.2.2.2.2
  have hn3 := hG.n3
  have hn6 := hG.n6
  have hk20 := hG.k
  have htl := tln_le v
  have hl60 := hQ.2.1
  refine lv_iconst (v := (nI 0)) hx hb dX8_put_0 (by decide) ?_
  refine lv_istore_n (lv' := [(3, .int (nI 0)), (0, .ref (fa g 239)), (1, .long (lN v))]) hx hb dX8_put_1 rfl hl (by decide) rfl (fun ls hl => ?_)
  refine lv_lload_n hx hb dX8_put_2 rfl (lv_at hl 2 rfl) ?_
  refine lv_lstore (lv' := [(4, .long (lN v)), (3, .int (nI 0)), (0, .ref (fa g 239)), (1, .long (lN v))]) hx hb dX8_put_3 hl (by decide) rfl (fun ls hl => ?_)
  refine lv_iconst (v := (nI 1)) hx hb dX8_put_5 (by decide) ?_
  refine lv_istore (lv' := [(6, .int (nI 1)), (4, .long (lN v)), (3, .int (nI 0)), (0, .ref (fa g 239)), (1, .long (lN v))]) hx hb dX8_put_6 hl (by decide) rfl (fun ls hl => ?_)
  refine fs_indP (g := g) (St := Nat) (fun (i : Nat) (ls : Array Slot) => lv_has ls 8 [(0, .ref (fa g 239)), (1, .long (lN v)), (3, .int (nI i)), (4, .long (lN (rs v i))), (6, .int (bI (∀ j, j < i → 33 ≤ byv v j ∧ byv v j ≤ 126)))] ∧ i ≤ 8 ∧ ∀ j, j < i → ¬ byv v j = 0) (fun (i : Nat) => 8 - i) ?_ 0 ls _ ⟨lv_sub hl [3, 4, 2, 1, 0] rfl, Nat.zero_le _, fun j hj => absurd hj (by omega)⟩ hS
  clear hl hS
  intro st ls locs hI hS ih
  obtain ⟨i, rfl⟩ : ∃ z, z = st := ⟨_, rfl⟩
  obtain ⟨hl, hI⟩ := hI
  have hI1 := hI.1
  have hby := byv_lt v i
  have hrl := rs_le v i
  refine lv_iload_n hx hb dX8_put_8 rfl (lv_at hl 2 rfl) ?_
  refine lv_bipush (v := (nI 8)) hx hb dX8_put_9 (by decide) ?_
  refine lv_icmp_ge (tgt := 67) hx hb dX8_put_11 (by decide) (fun c_11 => ?_) (fun c_11 => ?_)
  · rw [nI_leI (by omega) (by omega)] at c_11
    refine lv_iload_n hx hb dX8_put_67 rfl (lv_at hl 2 rfl) ?_
    refine lv_if_eq (tgt := 83) hx hb dX8_put_68 (by decide) (fun c_68 => ?_) (fun c_68 => ?_)
    · rw [fz_eqN (by omega)] at c_68
      refine lv_bipush (v := (-2)) hx hb dX8_put_83 (by decide) ?_
      refine fs_iret E hr hlk hP hS dX8_put_85 ?_
      have ht0 : tln v = 0 := tln_z (i := i) (Or.inl (by omega)) (by omega)
      refine ⟨?_, ?_, fSame.rf⟩
      · rw [if_pos ht0]
      · rw [if_neg (fun z => z.1 ht0), if_neg (fun z => z.1 ht0)]; exact hR
    · rw [fz_eqN (by omega)] at c_68
      refine lv_iload hx hb dX8_put_71 (lv_at hl 4 rfl) ?_
      refine lv_if_eq (tgt := 83) hx hb dX8_put_73 (by decide) (fun c_73 => ?_) (fun c_73 => ?_)
      · have c_73 := (fb_0 rfl).mp c_73
        refine lv_bipush (v := (-2)) hx hb dX8_put_83 (by decide) ?_
        refine fs_iret E hr hlk hP hS dX8_put_85 ?_
        have ht0 : tln v = 0 := tln_no (i := i) hI.2 c_73
        refine ⟨?_, ?_, fSame.rf⟩
        · rw [if_pos ht0]
        · rw [if_neg (fun z => z.1 ht0), if_neg (fun z => z.1 ht0)]; exact hR
      · have c_73 := (fb_1 rfl).mp c_73
        refine lv_lload hx hb dX8_put_76 (lv_at hl 3 rfl) ?_
        refine lv_lconst (v := 0) hx hb dX8_put_78 (by decide) ?_
        refine W.lcmp hx hb dX8_put_79 ?_
        refine lv_if_eq (tgt := 86) hx hb dX8_put_80 (by decide) (fun c_80 => ?_) (fun c_80 => ?_)
        · rw [lgz (by omega)] at c_80
          have ht : tln v = i := tln_hit hI.1 ⟨c_73, c_80⟩
          refine lv_aload_n hx hb dX8_put_86 rfl (lv_at hl 0 rfl) ?_
          refine fs_get E hP (k := 239) (v := .int (z 1)) 6 fc8 m_1o (by omega) (by decide) (wm wl_16 (i := 13) rfl) rfl dX8_put_87 ?_
          refine fs_vi (y := nI len) hQ.1 ?_
          refine lv_iload_n hx hb dX8_put_90 rfl (lv_at hl 2 rfl) ?_
          refine lv_iadd hx hb dX8_put_91 ?_
          refine fs_vi (y := (nI (len + i))) (nI_add _ _) ?_
          refine lv_bipush (v := (nI 60)) hx hb dX8_put_92 (by decide) ?_
          refine lv_icmp_le (tgt := 100) hx hb dX8_put_94 (by decide) (fun c_94 => ?_) (fun c_94 => ?_)
          · rw [nI_leI (by omega) (by omega)] at c_94
            refine lv_iload_n hx hb dX8_put_100 rfl (lv_at hl 2 rfl) ?_
            refine lv_iconst (v := (nI 1)) hx hb dX8_put_101 (by decide) ?_
            refine lv_isub hx hb dX8_put_102 ?_
            refine lv_istore (lv' := [(7, .int ((nI i) - (nI 1))), (0, .ref (fa g 239)), (1, .long (lN v)), (3, .int (nI i)), (4, .long (lN (rs v i))), (6, .int (bI (∀ j, j < i → 33 ≤ byv v j ∧ byv v j ≤ 126)))]) hx hb dX8_put_103 hl (by decide) rfl (fun ls hl => ?_)
            have MA_2 : MA g ct (mkz (z 0) (z 1) (z 2) (z 3) (z 4) (z 5) (z 6) (z 7) (z 8) (z 9)) (mkF (F 0) (F 1) (F 2) (F 3) (F 4) (F 5) (F 6) (F 7) (F 8)) := ⟨m_1o, m_1r0, m_1r1, m_1r2, m_1r3, m_1r4, m_1r5, m_1r6, m_1r7, m_1r8⟩
            refine fs_ind (g := g) (N := N) (St := Nat) (fun (q : Nat) (ct_3 : Nat → va_E) (ls : Array Slot) => lv_has ls 8 [(0, .ref (fa g 239)), (1, .long (lN v)), (7, .int (nI q - nI 1))] ∧ ∃ (z1 : Nat → Int32) (F1 : Nat → Nat → Int32), MA g ct_3 z1 F1 ∧ (q ≤ i ∧ z1 0 = z 0 ∧ z1 1 = nI (len + (i - q)) ∧ F1 0 = F 0 ∧ F1 1 = F 1 ∧ F1 2 = F 2 ∧ F1 3 = F 3 ∧ ∀ j, j < len + (i - q) → F1 4 j = nI (ptT t len v j)) ∧ fSame 239 249 ct ct_3) (fun q => q) ?_ i _ _ ls _ ⟨lv_sub hl [1, 2, 0] rfl, ⟨(mkz (z 0) (z 1) (z 2) (z 3) (z 4) (z 5) (z 6) (z 7) (z 8) (z 9)), (mkF (F 0) (F 1) (F 2) (F 3) (F 4) (F 5) (F 6) (F 7) (F 8)), MA_2, ⟨Nat.le_refl _, rfl, (by rw [Nat.sub_self]; exact hQ.1), rfl, rfl, rfl, rfl, fun j hj => (by show F 4 j = _; unfold ptT; rw [if_pos (by omega)]; exact hQ.2.2 j (by omega))⟩, (show fSame 239 249 _ _ from fSame.rf)⟩⟩ hP hS
            clear hl hP hS
            intro st ct_3 H ls locs hI hP hS ih
            obtain ⟨q, rfl⟩ : ∃ z, z = st := ⟨_, rfl⟩
            obtain ⟨hl, z1, F1, hM1, hI, hsm⟩ := hI
            have m_4o : ct_3 239 = .inr (8, [.ref (fa g 240), .ref (fa g 241), .int (z1 0), .ref (fa g 242), .ref (fa g 243), .ref (fa g 244), .int (z1 1), .ref (fa g 245), .int (z1 2), .ref (fa g 246), .ref (fa g 247), .ref (fa g 248), .int (z1 3), .int (z1 4), .int (z1 5), .int (z1 6), .int (z1 7), .int (z1 8), .int (z1 9)]) := (hM1).1
            have m_4r0 : ct_3 240 = .inl (fcI g, 121, .inl (F1 0)) := (hM1).2.1
            have m_4r1 : ct_3 241 = .inl (fcI g, 726, .inl (F1 1)) := (hM1).2.2.1
            have m_4r2 : ct_3 242 = .inl (fcI g, 242, .inl (F1 2)) := (hM1).2.2.2.1
            have m_4r3 : ct_3 243 = .inl (fcI g, 2, .inl (F1 3)) := (hM1).2.2.2.2.1
            have m_4r4 : ct_3 244 = .inl (fcI g, 60, .inl (F1 4)) := (hM1).2.2.2.2.2.1
            have m_4r5 : ct_3 245 = .inl (fcI g, 6, .inl (F1 5)) := (hM1).2.2.2.2.2.2.1
            have m_4r6 : ct_3 246 = .inl (fcI g, 36, .inl (F1 6)) := (hM1).2.2.2.2.2.2.2.1
            have m_4r7 : ct_3 247 = .inl (fcI g, 20, .inl (F1 7)) := (hM1).2.2.2.2.2.2.2.2.1
            have m_4r8 : ct_3 248 = .inl (fcI g, 20, .inl (F1 8)) := (hM1).2.2.2.2.2.2.2.2.2
            have hI0 := hI.1
            refine lv_iload hx hb dX8_put_105 (lv_at hl 2 rfl) ?_
            refine lv_if_lt (tgt := 147) hx hb dX8_put_107 (by decide) (fun c_107 => ?_) (fun c_107 => ?_)
            · rw [nsub_lt (by omega)] at c_107
              refine lv_aload_n hx hb dX8_put_147 rfl (lv_at hl 0 rfl) ?_
              refine fs_get E hP (k := 239) (v := .int (z1 1)) 6 fc8 m_4o (by omega) (by decide) (wm wl_16 (i := 13) rfl) rfl dX8_put_148 ?_
              refine fs_vi (y := nI (len + (i - q))) hI.2.2.1 ?_
              have MA8 : MA g ct_3 (mkz (z1 0) (z1 1) (z1 2) (z1 3) (z1 4) (z1 5) (z1 6) (z1 7) (z1 8) (z1 9)) (mkF (F1 0) (F1 1) (F1 2) (F1 3) (F1 4) (F1 5) (F1 6) (F1 7) (F1 8)) := ⟨m_4o, m_4r0, m_4r1, m_4r2, m_4r3, m_4r4, m_4r5, m_4r6, m_4r7, m_4r8⟩
              refine fs_iret E hr hlk hP hS dX8_put_151 ?_
              have hq0 : i - q = i := by omega
              have hJ := hI
              rw [hq0] at hJ
              refine ⟨?_, ?_, (show fSame 239 249 _ _ from fSame.tr hsm fSame.rf)⟩
              · rw [ht, if_neg c_68, if_pos c_94, hq0]
              · rw [ht, if_pos ⟨c_68, c_94⟩, if_pos ⟨c_68, c_94⟩]
                exact ⟨_, _, MA8, fun j hj => by show F1 0 j = _; rw [hJ.2.2.2.1]; exact hT j hj, ⟨hJ.2.1.trans hH.1, hH.2.1, fun a b ha hb => (congrFun hJ.2.2.2.2.1 _).trans (hH.2.2 a b ha hb)⟩, ⟨(congrFun hJ.2.2.2.2.2.2.1 0).trans hS9.1, (congrFun hJ.2.2.2.2.2.2.1 1).trans hS9.2.1, fun h j hj => (congrFun hJ.2.2.2.2.2.1 j).trans (hS9.2.2.1 h j hj), fun h j hj => (congrFun hJ.2.2.2.2.2.1 _).trans (hS9.2.2.2 h j hj)⟩, ⟨hJ.2.2.1, by omega, fun j hj => hJ.2.2.2.2.2.2.2 j hj⟩⟩
            · rw [nsub_lt (by omega)] at c_107
              have eq1 : nI q - nI 1 = nI (q - 1) := pk_sub (by omega)
              rw [eq1] at hl
              refine lv_aload_n hx hb dX8_put_110 rfl (lv_at hl 0 rfl) ?_
              refine fs_get E hP (k := 239) (v := .ref (fa g 244)) 5 fc8 m_4o (by omega) (by decide) (wm wl_5 (i := 4) rfl) rfl dX8_put_111 ?_
              refine lv_aload_n hx hb dX8_put_114 rfl (lv_at hl 0 rfl) ?_
              refine fs_get E hP (k := 239) (v := .int (z1 1)) 6 fc8 m_4o (by omega) (by decide) (wm wl_16 (i := 13) rfl) rfl dX8_put_115 ?_
              refine fs_vi (y := nI (len + (i - q))) hI.2.2.1 ?_
              refine lv_lload_n hx hb dX8_put_118 rfl (lv_at hl 1 rfl) ?_
              refine lv_bipush (v := (nI 8)) hx hb dX8_put_119 (by decide) ?_
              refine lv_iload hx hb dX8_put_121 (lv_at hl 2 rfl) ?_
              refine lv_imul hx hb dX8_put_123 ?_
              refine fs_vi (y := (nI (8 * (q - 1)))) (pk_mul _ _) ?_
              refine lv_lushr (v := (lN (rs v (q - 1)))) hx hb dX8_put_124 (rs_shk hv (by omega)) ?_
              refine lv_ldc2 (v := 255) hx hb E.1.2.2.2.1 (E.1.2.2.2.2 _ (wm wl_34 (i := 4) rfl)) dX8_put_125 ?_
              refine lv_land hx hb dX8_put_128 ?_
              refine fs_vv (y := .long (lN (byv v (q - 1)))) (congrArg Value.long (rs_and hv)) ?_
              refine lv_l2i (v := (nI (byv v (q - 1)))) hx hb dX8_put_129 (lN_i _) ?_
              refine fs_iast E hP hS (k := 244) m_4r4 (by omega) (vp_in_nI (by omega) (by omega)) dX8_put_130 (fun ct_5 H locs q_6 hP hS => ?_)
              rw [nI_clamp (by omega)] at q_6
              have h_7 : ct_5 239 = .inr (8, [.ref (fa g 240), .ref (fa g 241), .int (z1 0), .ref (fa g 242), .ref (fa g 243), .ref (fa g 244), .int (z1 1), .ref (fa g 245), .int (z1 2), .ref (fa g 246), .ref (fa g 247), .ref (fa g 248), .int (z1 3), .int (z1 4), .int (z1 5), .int (z1 6), .int (z1 7), .int (z1 8), .int (z1 9)]) := by rw [q_6]; exact (fu_ne (by omega)).trans m_4o
              have h_8 : ct_5 240 = .inl (fcI g, 121, .inl (F1 0)) := by rw [q_6]; exact (fu_ne (by omega)).trans m_4r0
              have h_9 : ct_5 241 = .inl (fcI g, 726, .inl (F1 1)) := by rw [q_6]; exact (fu_ne (by omega)).trans m_4r1
              have h_10 : ct_5 242 = .inl (fcI g, 242, .inl (F1 2)) := by rw [q_6]; exact (fu_ne (by omega)).trans m_4r2
              have h_11 : ct_5 243 = .inl (fcI g, 2, .inl (F1 3)) := by rw [q_6]; exact (fu_ne (by omega)).trans m_4r3
              have h_12 : ct_5 244 = .inl (fcI g, 60, .inl (upd (F1 4) (len + (i - q)) (nI (byv v (q - 1))))) := by rw [q_6]; exact fu_eq _ _ _
              have h_13 : ct_5 245 = .inl (fcI g, 6, .inl (F1 5)) := by rw [q_6]; exact (fu_ne (by omega)).trans m_4r5
              have h_14 : ct_5 246 = .inl (fcI g, 36, .inl (F1 6)) := by rw [q_6]; exact (fu_ne (by omega)).trans m_4r6
              have h_15 : ct_5 247 = .inl (fcI g, 20, .inl (F1 7)) := by rw [q_6]; exact (fu_ne (by omega)).trans m_4r7
              have h_16 : ct_5 248 = .inl (fcI g, 20, .inl (F1 8)) := by rw [q_6]; exact (fu_ne (by omega)).trans m_4r8
              refine lv_aload_n hx hb dX8_put_131 rfl (lv_at hl 0 rfl) ?_
              refine lv_dup hx hb dX8_put_132 rfl ?_
              refine fs_get E hP (k := 239) (v := .int (z1 1)) 6 fc8 h_7 (by omega) (by decide) (wm wl_16 (i := 13) rfl) rfl dX8_put_133 ?_
              refine fs_vi (y := nI (len + (i - q))) hI.2.2.1 ?_
              refine lv_iconst (v := (nI 1)) hx hb dX8_put_136 (by decide) ?_
              refine lv_iadd hx hb dX8_put_137 ?_
              refine fs_vi (y := (nI (len + (i - q) + 1))) (nI_1 _) ?_
              refine fs_put E hP hS (k := 239) 6 fc8 h_7 (by omega) (by decide) (wm wl_16 (i := 13) rfl) rfl rfl rfl rfl (Nat.le_of_ble_eq_true rfl) dX8_put_138 (fun ct_17 H locs q_18 hP hS => ?_)
              have h_19 : ct_17 239 = .inr (8, [.ref (fa g 240), .ref (fa g 241), .int (z1 0), .ref (fa g 242), .ref (fa g 243), .ref (fa g 244), .int (nI (len + (i - q) + 1)), .ref (fa g 245), .int (z1 2), .ref (fa g 246), .ref (fa g 247), .ref (fa g 248), .int (z1 3), .int (z1 4), .int (z1 5), .int (z1 6), .int (z1 7), .int (z1 8), .int (z1 9)]) := by rw [q_18]; exact fu_eq _ _ _
              have h_20 : ct_17 240 = .inl (fcI g, 121, .inl (F1 0)) := by rw [q_18]; exact (fu_ne (by omega)).trans h_8
              have h_21 : ct_17 241 = .inl (fcI g, 726, .inl (F1 1)) := by rw [q_18]; exact (fu_ne (by omega)).trans h_9
              have h_22 : ct_17 242 = .inl (fcI g, 242, .inl (F1 2)) := by rw [q_18]; exact (fu_ne (by omega)).trans h_10
              have h_23 : ct_17 243 = .inl (fcI g, 2, .inl (F1 3)) := by rw [q_18]; exact (fu_ne (by omega)).trans h_11
              have h_24 : ct_17 244 = .inl (fcI g, 60, .inl (upd (F1 4) (len + (i - q)) (nI (byv v (q - 1))))) := by rw [q_18]; exact (fu_ne (by omega)).trans h_12
              have h_25 : ct_17 245 = .inl (fcI g, 6, .inl (F1 5)) := by rw [q_18]; exact (fu_ne (by omega)).trans h_13
              have h_26 : ct_17 246 = .inl (fcI g, 36, .inl (F1 6)) := by rw [q_18]; exact (fu_ne (by omega)).trans h_14
              have h_27 : ct_17 247 = .inl (fcI g, 20, .inl (F1 7)) := by rw [q_18]; exact (fu_ne (by omega)).trans h_15
              have h_28 : ct_17 248 = .inl (fcI g, 20, .inl (F1 8)) := by rw [q_18]; exact (fu_ne (by omega)).trans h_16
              refine lv_iinc (v := (nI (q - 1) - nI 1)) (lv' := [(7, .int (nI (q - 1) - nI 1)), (0, .ref (fa g 239)), (1, .long (lN v))]) hx hb dX8_put_141 hl (k := 2) rfl (nsub1 _) (by decide) rfl (fun ls hl => ?_)
              refine lv_goto (tgt := 105) hx hb dX8_put_144 (by decide) ?_
              have MA9 : MA g ct_17 (mkz (z1 0) (nI (len + (i - q) + 1)) (z1 2) (z1 3) (z1 4) (z1 5) (z1 6) (z1 7) (z1 8) (z1 9)) (mkF (F1 0) (F1 1) (F1 2) (F1 3) (upd (F1 4) (len + (i - q)) (nI (byv v (q - 1)))) (F1 5) (F1 6) (F1 7) (F1 8)) := ⟨h_19, h_20, h_21, h_22, h_23, h_24, h_25, h_26, h_27, h_28⟩
              have hs9 : ∀ j, j < len + (i - (q - 1)) → upd (F1 4) (len + (i - q)) (nI (byv v (q - 1))) j = nI (ptT t len v j) := fun j hj => by
                by_cases y : j = len + (i - q)
                · subst y; rw [upd_eq]; unfold ptT; rw [if_neg (by omega), ht]; exact congrArg (fun x => nI (byv v x)) (by omega)
                · rw [upd_ne y]; exact hI.2.2.2.2.2.2.2 j (by omega)
              exact ih (q - 1) _ _ ls _ (by (try dsimp only); omega) ⟨lv_sub hl [1, 2, 0] rfl, ⟨_, _, MA9, ⟨by omega, hI.2.1, (congrArg nI (by omega)), hI.2.2.2.1, hI.2.2.2.2.1, hI.2.2.2.2.2.1, hI.2.2.2.2.2.2.1, hs9⟩, (show fSame 239 249 _ _ from fSame.tr hsm (fSame.ap (fSame.ap fSame.rf q_6 (by omega) (by omega)) q_18 (by omega) (by omega)))⟩⟩ hP hS
          · rw [nI_leI (by omega) (by omega)] at c_94
            refine lv_bipush (v := (-4)) hx hb dX8_put_97 (by decide) ?_
            refine fs_iret E hr hlk hP hS dX8_put_99 ?_
            refine ⟨?_, ?_, fSame.rf⟩
            · rw [ht, if_neg c_68, if_neg c_94]
            · rw [ht, if_neg (fun z => c_94 z.2), if_neg (fun z => c_94 z.2)]; exact hR
        · rw [lgz (by omega)] at c_80
          refine lv_bipush (v := (-2)) hx hb dX8_put_83 (by decide) ?_
          refine fs_iret E hr hlk hP hS dX8_put_85 ?_
          have ht0 : tln v = 0 := tln_rest (i := i) (Or.inl (by omega)) c_80
          refine ⟨?_, ?_, fSame.rf⟩
          · rw [if_pos ht0]
          · rw [if_neg (fun z => z.1 ht0), if_neg (fun z => z.1 ht0)]; exact hR
  · rw [nI_leI (by omega) (by omega)] at c_11
    refine lv_lload hx hb dX8_put_14 (lv_at hl 3 rfl) ?_
    refine lv_ldc2 (v := 255) hx hb E.1.2.2.2.1 (E.1.2.2.2.2 _ (wm wl_34 (i := 4) rfl)) dX8_put_16 ?_
    refine lv_land hx hb dX8_put_19 ?_
    refine fs_vv (y := .long (lN (byv v i))) (congrArg Value.long (rs_and hv)) ?_
    refine lv_lconst (v := 0) hx hb dX8_put_20 (by decide) ?_
    refine W.lcmp hx hb dX8_put_21 ?_
    refine lv_if_eq (tgt := 67) hx hb dX8_put_22 (by decide) (fun c_22 => ?_) (fun c_22 => ?_)
    · rw [lgz (by omega)] at c_22
      refine lv_iload_n hx hb dX8_put_67 rfl (lv_at hl 2 rfl) ?_
      refine lv_if_eq (tgt := 83) hx hb dX8_put_68 (by decide) (fun c_68 => ?_) (fun c_68 => ?_)
      · rw [fz_eqN (by omega)] at c_68
        refine lv_bipush (v := (-2)) hx hb dX8_put_83 (by decide) ?_
        refine fs_iret E hr hlk hP hS dX8_put_85 ?_
        have ht0 : tln v = 0 := tln_z (i := i) (Or.inr c_22) (by omega)
        refine ⟨?_, ?_, fSame.rf⟩
        · rw [if_pos ht0]
        · rw [if_neg (fun z => z.1 ht0), if_neg (fun z => z.1 ht0)]; exact hR
      · rw [fz_eqN (by omega)] at c_68
        refine lv_iload hx hb dX8_put_71 (lv_at hl 4 rfl) ?_
        refine lv_if_eq (tgt := 83) hx hb dX8_put_73 (by decide) (fun c_73 => ?_) (fun c_73 => ?_)
        · have c_73 := (fb_0 rfl).mp c_73
          refine lv_bipush (v := (-2)) hx hb dX8_put_83 (by decide) ?_
          refine fs_iret E hr hlk hP hS dX8_put_85 ?_
          have ht0 : tln v = 0 := tln_no (i := i) hI.2 c_73
          refine ⟨?_, ?_, fSame.rf⟩
          · rw [if_pos ht0]
          · rw [if_neg (fun z => z.1 ht0), if_neg (fun z => z.1 ht0)]; exact hR
        · have c_73 := (fb_1 rfl).mp c_73
          refine lv_lload hx hb dX8_put_76 (lv_at hl 3 rfl) ?_
          refine lv_lconst (v := 0) hx hb dX8_put_78 (by decide) ?_
          refine W.lcmp hx hb dX8_put_79 ?_
          refine lv_if_eq (tgt := 86) hx hb dX8_put_80 (by decide) (fun c_80 => ?_) (fun c_80 => ?_)
          · rw [lgz (by omega)] at c_80
            have ht : tln v = i := tln_hit hI.1 ⟨c_73, c_80⟩
            refine lv_aload_n hx hb dX8_put_86 rfl (lv_at hl 0 rfl) ?_
            refine fs_get E hP (k := 239) (v := .int (z 1)) 6 fc8 m_1o (by omega) (by decide) (wm wl_16 (i := 13) rfl) rfl dX8_put_87 ?_
            refine fs_vi (y := nI len) hQ.1 ?_
            refine lv_iload_n hx hb dX8_put_90 rfl (lv_at hl 2 rfl) ?_
            refine lv_iadd hx hb dX8_put_91 ?_
            refine fs_vi (y := (nI (len + i))) (nI_add _ _) ?_
            refine lv_bipush (v := (nI 60)) hx hb dX8_put_92 (by decide) ?_
            refine lv_icmp_le (tgt := 100) hx hb dX8_put_94 (by decide) (fun c_94 => ?_) (fun c_94 => ?_)
            · rw [nI_leI (by omega) (by omega)] at c_94
              refine lv_iload_n hx hb dX8_put_100 rfl (lv_at hl 2 rfl) ?_
              refine lv_iconst (v := (nI 1)) hx hb dX8_put_101 (by decide) ?_
              refine lv_isub hx hb dX8_put_102 ?_
              refine lv_istore (lv' := [(7, .int ((nI i) - (nI 1))), (0, .ref (fa g 239)), (1, .long (lN v)), (3, .int (nI i)), (4, .long (lN (rs v i))), (6, .int (bI (∀ j, j < i → 33 ≤ byv v j ∧ byv v j ≤ 126)))]) hx hb dX8_put_103 hl (by decide) rfl (fun ls hl => ?_)
              have MA_29 : MA g ct (mkz (z 0) (z 1) (z 2) (z 3) (z 4) (z 5) (z 6) (z 7) (z 8) (z 9)) (mkF (F 0) (F 1) (F 2) (F 3) (F 4) (F 5) (F 6) (F 7) (F 8)) := ⟨m_1o, m_1r0, m_1r1, m_1r2, m_1r3, m_1r4, m_1r5, m_1r6, m_1r7, m_1r8⟩
              refine fs_ind (g := g) (N := N) (St := Nat) (fun (q : Nat) (ct_30 : Nat → va_E) (ls : Array Slot) => lv_has ls 8 [(0, .ref (fa g 239)), (1, .long (lN v)), (7, .int (nI q - nI 1))] ∧ ∃ (z1 : Nat → Int32) (F1 : Nat → Nat → Int32), MA g ct_30 z1 F1 ∧ (q ≤ i ∧ z1 0 = z 0 ∧ z1 1 = nI (len + (i - q)) ∧ F1 0 = F 0 ∧ F1 1 = F 1 ∧ F1 2 = F 2 ∧ F1 3 = F 3 ∧ ∀ j, j < len + (i - q) → F1 4 j = nI (ptT t len v j)) ∧ fSame 239 249 ct ct_30) (fun q => q) ?_ i _ _ ls _ ⟨lv_sub hl [1, 2, 0] rfl, ⟨(mkz (z 0) (z 1) (z 2) (z 3) (z 4) (z 5) (z 6) (z 7) (z 8) (z 9)), (mkF (F 0) (F 1) (F 2) (F 3) (F 4) (F 5) (F 6) (F 7) (F 8)), MA_29, ⟨Nat.le_refl _, rfl, (by rw [Nat.sub_self]; exact hQ.1), rfl, rfl, rfl, rfl, fun j hj => (by show F 4 j = _; unfold ptT; rw [if_pos (by omega)]; exact hQ.2.2 j (by omega))⟩, (show fSame 239 249 _ _ from fSame.rf)⟩⟩ hP hS
              clear hl hP hS
              intro st ct_30 H ls locs hI hP hS ih
              obtain ⟨q, rfl⟩ : ∃ z, z = st := ⟨_, rfl⟩
              obtain ⟨hl, z1, F1, hM1, hI, hsm⟩ := hI
              have m_31o : ct_30 239 = .inr (8, [.ref (fa g 240), .ref (fa g 241), .int (z1 0), .ref (fa g 242), .ref (fa g 243), .ref (fa g 244), .int (z1 1), .ref (fa g 245), .int (z1 2), .ref (fa g 246), .ref (fa g 247), .ref (fa g 248), .int (z1 3), .int (z1 4), .int (z1 5), .int (z1 6), .int (z1 7), .int (z1 8), .int (z1 9)]) := (hM1).1
              have m_31r0 : ct_30 240 = .inl (fcI g, 121, .inl (F1 0)) := (hM1).2.1
              have m_31r1 : ct_30 241 = .inl (fcI g, 726, .inl (F1 1)) := (hM1).2.2.1
              have m_31r2 : ct_30 242 = .inl (fcI g, 242, .inl (F1 2)) := (hM1).2.2.2.1
              have m_31r3 : ct_30 243 = .inl (fcI g, 2, .inl (F1 3)) := (hM1).2.2.2.2.1
              have m_31r4 : ct_30 244 = .inl (fcI g, 60, .inl (F1 4)) := (hM1).2.2.2.2.2.1
              have m_31r5 : ct_30 245 = .inl (fcI g, 6, .inl (F1 5)) := (hM1).2.2.2.2.2.2.1
              have m_31r6 : ct_30 246 = .inl (fcI g, 36, .inl (F1 6)) := (hM1).2.2.2.2.2.2.2.1
              have m_31r7 : ct_30 247 = .inl (fcI g, 20, .inl (F1 7)) := (hM1).2.2.2.2.2.2.2.2.1
              have m_31r8 : ct_30 248 = .inl (fcI g, 20, .inl (F1 8)) := (hM1).2.2.2.2.2.2.2.2.2
              have hI0 := hI.1
              refine lv_iload hx hb dX8_put_105 (lv_at hl 2 rfl) ?_
              refine lv_if_lt (tgt := 147) hx hb dX8_put_107 (by decide) (fun c_107 => ?_) (fun c_107 => ?_)
              · rw [nsub_lt (by omega)] at c_107
                refine lv_aload_n hx hb dX8_put_147 rfl (lv_at hl 0 rfl) ?_
                refine fs_get E hP (k := 239) (v := .int (z1 1)) 6 fc8 m_31o (by omega) (by decide) (wm wl_16 (i := 13) rfl) rfl dX8_put_148 ?_
                refine fs_vi (y := nI (len + (i - q))) hI.2.2.1 ?_
                have MA8 : MA g ct_30 (mkz (z1 0) (z1 1) (z1 2) (z1 3) (z1 4) (z1 5) (z1 6) (z1 7) (z1 8) (z1 9)) (mkF (F1 0) (F1 1) (F1 2) (F1 3) (F1 4) (F1 5) (F1 6) (F1 7) (F1 8)) := ⟨m_31o, m_31r0, m_31r1, m_31r2, m_31r3, m_31r4, m_31r5, m_31r6, m_31r7, m_31r8⟩
                refine fs_iret E hr hlk hP hS dX8_put_151 ?_
                have hq0 : i - q = i := by omega
                have hJ := hI
                rw [hq0] at hJ
                refine ⟨?_, ?_, (show fSame 239 249 _ _ from fSame.tr hsm fSame.rf)⟩
                · rw [ht, if_neg c_68, if_pos c_94, hq0]
                · rw [ht, if_pos ⟨c_68, c_94⟩, if_pos ⟨c_68, c_94⟩]
                  exact ⟨_, _, MA8, fun j hj => by show F1 0 j = _; rw [hJ.2.2.2.1]; exact hT j hj, ⟨hJ.2.1.trans hH.1, hH.2.1, fun a b ha hb => (congrFun hJ.2.2.2.2.1 _).trans (hH.2.2 a b ha hb)⟩, ⟨(congrFun hJ.2.2.2.2.2.2.1 0).trans hS9.1, (congrFun hJ.2.2.2.2.2.2.1 1).trans hS9.2.1, fun h j hj => (congrFun hJ.2.2.2.2.2.1 j).trans (hS9.2.2.1 h j hj), fun h j hj => (congrFun hJ.2.2.2.2.2.1 _).trans (hS9.2.2.2 h j hj)⟩, ⟨hJ.2.2.1, by omega, fun j hj => hJ.2.2.2.2.2.2.2 j hj⟩⟩
              · rw [nsub_lt (by omega)] at c_107
                have eq1 : nI q - nI 1 = nI (q - 1) := pk_sub (by omega)
                rw [eq1] at hl
                refine lv_aload_n hx hb dX8_put_110 rfl (lv_at hl 0 rfl) ?_
                refine fs_get E hP (k := 239) (v := .ref (fa g 244)) 5 fc8 m_31o (by omega) (by decide) (wm wl_5 (i := 4) rfl) rfl dX8_put_111 ?_
                refine lv_aload_n hx hb dX8_put_114 rfl (lv_at hl 0 rfl) ?_
                refine fs_get E hP (k := 239) (v := .int (z1 1)) 6 fc8 m_31o (by omega) (by decide) (wm wl_16 (i := 13) rfl) rfl dX8_put_115 ?_
                refine fs_vi (y := nI (len + (i - q))) hI.2.2.1 ?_
                refine lv_lload_n hx hb dX8_put_118 rfl (lv_at hl 1 rfl) ?_
                refine lv_bipush (v := (nI 8)) hx hb dX8_put_119 (by decide) ?_
                refine lv_iload hx hb dX8_put_121 (lv_at hl 2 rfl) ?_
                refine lv_imul hx hb dX8_put_123 ?_
                refine fs_vi (y := (nI (8 * (q - 1)))) (pk_mul _ _) ?_
                refine lv_lushr (v := (lN (rs v (q - 1)))) hx hb dX8_put_124 (rs_shk hv (by omega)) ?_
                refine lv_ldc2 (v := 255) hx hb E.1.2.2.2.1 (E.1.2.2.2.2 _ (wm wl_34 (i := 4) rfl)) dX8_put_125 ?_
                refine lv_land hx hb dX8_put_128 ?_
                refine fs_vv (y := .long (lN (byv v (q - 1)))) (congrArg Value.long (rs_and hv)) ?_
                refine lv_l2i (v := (nI (byv v (q - 1)))) hx hb dX8_put_129 (lN_i _) ?_
                refine fs_iast E hP hS (k := 244) m_31r4 (by omega) (vp_in_nI (by omega) (by omega)) dX8_put_130 (fun ct_32 H locs q_33 hP hS => ?_)
                rw [nI_clamp (by omega)] at q_33
                have h_34 : ct_32 239 = .inr (8, [.ref (fa g 240), .ref (fa g 241), .int (z1 0), .ref (fa g 242), .ref (fa g 243), .ref (fa g 244), .int (z1 1), .ref (fa g 245), .int (z1 2), .ref (fa g 246), .ref (fa g 247), .ref (fa g 248), .int (z1 3), .int (z1 4), .int (z1 5), .int (z1 6), .int (z1 7), .int (z1 8), .int (z1 9)]) := by rw [q_33]; exact (fu_ne (by omega)).trans m_31o
                have h_35 : ct_32 240 = .inl (fcI g, 121, .inl (F1 0)) := by rw [q_33]; exact (fu_ne (by omega)).trans m_31r0
                have h_36 : ct_32 241 = .inl (fcI g, 726, .inl (F1 1)) := by rw [q_33]; exact (fu_ne (by omega)).trans m_31r1
                have h_37 : ct_32 242 = .inl (fcI g, 242, .inl (F1 2)) := by rw [q_33]; exact (fu_ne (by omega)).trans m_31r2
                have h_38 : ct_32 243 = .inl (fcI g, 2, .inl (F1 3)) := by rw [q_33]; exact (fu_ne (by omega)).trans m_31r3
                have h_39 : ct_32 244 = .inl (fcI g, 60, .inl (upd (F1 4) (len + (i - q)) (nI (byv v (q - 1))))) := by rw [q_33]; exact fu_eq _ _ _
                have h_40 : ct_32 245 = .inl (fcI g, 6, .inl (F1 5)) := by rw [q_33]; exact (fu_ne (by omega)).trans m_31r5
                have h_41 : ct_32 246 = .inl (fcI g, 36, .inl (F1 6)) := by rw [q_33]; exact (fu_ne (by omega)).trans m_31r6
                have h_42 : ct_32 247 = .inl (fcI g, 20, .inl (F1 7)) := by rw [q_33]; exact (fu_ne (by omega)).trans m_31r7
                have h_43 : ct_32 248 = .inl (fcI g, 20, .inl (F1 8)) := by rw [q_33]; exact (fu_ne (by omega)).trans m_31r8
                refine lv_aload_n hx hb dX8_put_131 rfl (lv_at hl 0 rfl) ?_
                refine lv_dup hx hb dX8_put_132 rfl ?_
                refine fs_get E hP (k := 239) (v := .int (z1 1)) 6 fc8 h_34 (by omega) (by decide) (wm wl_16 (i := 13) rfl) rfl dX8_put_133 ?_
                refine fs_vi (y := nI (len + (i - q))) hI.2.2.1 ?_
                refine lv_iconst (v := (nI 1)) hx hb dX8_put_136 (by decide) ?_
                refine lv_iadd hx hb dX8_put_137 ?_
                refine fs_vi (y := (nI (len + (i - q) + 1))) (nI_1 _) ?_
                refine fs_put E hP hS (k := 239) 6 fc8 h_34 (by omega) (by decide) (wm wl_16 (i := 13) rfl) rfl rfl rfl rfl (Nat.le_of_ble_eq_true rfl) dX8_put_138 (fun ct_44 H locs q_45 hP hS => ?_)
                have h_46 : ct_44 239 = .inr (8, [.ref (fa g 240), .ref (fa g 241), .int (z1 0), .ref (fa g 242), .ref (fa g 243), .ref (fa g 244), .int (nI (len + (i - q) + 1)), .ref (fa g 245), .int (z1 2), .ref (fa g 246), .ref (fa g 247), .ref (fa g 248), .int (z1 3), .int (z1 4), .int (z1 5), .int (z1 6), .int (z1 7), .int (z1 8), .int (z1 9)]) := by rw [q_45]; exact fu_eq _ _ _
                have h_47 : ct_44 240 = .inl (fcI g, 121, .inl (F1 0)) := by rw [q_45]; exact (fu_ne (by omega)).trans h_35
                have h_48 : ct_44 241 = .inl (fcI g, 726, .inl (F1 1)) := by rw [q_45]; exact (fu_ne (by omega)).trans h_36
                have h_49 : ct_44 242 = .inl (fcI g, 242, .inl (F1 2)) := by rw [q_45]; exact (fu_ne (by omega)).trans h_37
                have h_50 : ct_44 243 = .inl (fcI g, 2, .inl (F1 3)) := by rw [q_45]; exact (fu_ne (by omega)).trans h_38
                have h_51 : ct_44 244 = .inl (fcI g, 60, .inl (upd (F1 4) (len + (i - q)) (nI (byv v (q - 1))))) := by rw [q_45]; exact (fu_ne (by omega)).trans h_39
                have h_52 : ct_44 245 = .inl (fcI g, 6, .inl (F1 5)) := by rw [q_45]; exact (fu_ne (by omega)).trans h_40
                have h_53 : ct_44 246 = .inl (fcI g, 36, .inl (F1 6)) := by rw [q_45]; exact (fu_ne (by omega)).trans h_41
                have h_54 : ct_44 247 = .inl (fcI g, 20, .inl (F1 7)) := by rw [q_45]; exact (fu_ne (by omega)).trans h_42
                have h_55 : ct_44 248 = .inl (fcI g, 20, .inl (F1 8)) := by rw [q_45]; exact (fu_ne (by omega)).trans h_43
                refine lv_iinc (v := (nI (q - 1) - nI 1)) (lv' := [(7, .int (nI (q - 1) - nI 1)), (0, .ref (fa g 239)), (1, .long (lN v))]) hx hb dX8_put_141 hl (k := 2) rfl (nsub1 _) (by decide) rfl (fun ls hl => ?_)
                refine lv_goto (tgt := 105) hx hb dX8_put_144 (by decide) ?_
                have MA9 : MA g ct_44 (mkz (z1 0) (nI (len + (i - q) + 1)) (z1 2) (z1 3) (z1 4) (z1 5) (z1 6) (z1 7) (z1 8) (z1 9)) (mkF (F1 0) (F1 1) (F1 2) (F1 3) (upd (F1 4) (len + (i - q)) (nI (byv v (q - 1)))) (F1 5) (F1 6) (F1 7) (F1 8)) := ⟨h_46, h_47, h_48, h_49, h_50, h_51, h_52, h_53, h_54, h_55⟩
                have hs9 : ∀ j, j < len + (i - (q - 1)) → upd (F1 4) (len + (i - q)) (nI (byv v (q - 1))) j = nI (ptT t len v j) := fun j hj => by
                  by_cases y : j = len + (i - q)
                  · subst y; rw [upd_eq]; unfold ptT; rw [if_neg (by omega), ht]; exact congrArg (fun x => nI (byv v x)) (by omega)
                  · rw [upd_ne y]; exact hI.2.2.2.2.2.2.2 j (by omega)
                exact ih (q - 1) _ _ ls _ (by (try dsimp only); omega) ⟨lv_sub hl [1, 2, 0] rfl, ⟨_, _, MA9, ⟨by omega, hI.2.1, (congrArg nI (by omega)), hI.2.2.2.1, hI.2.2.2.2.1, hI.2.2.2.2.2.1, hI.2.2.2.2.2.2.1, hs9⟩, (show fSame 239 249 _ _ from fSame.tr hsm (fSame.ap (fSame.ap fSame.rf q_33 (by omega) (by omega)) q_45 (by omega) (by omega)))⟩⟩ hP hS
            · rw [nI_leI (by omega) (by omega)] at c_94
              refine lv_bipush (v := (-4)) hx hb dX8_put_97 (by decide) ?_
              refine fs_iret E hr hlk hP hS dX8_put_99 ?_
              refine ⟨?_, ?_, fSame.rf⟩
              · rw [ht, if_neg c_68, if_neg c_94]
              · rw [ht, if_neg (fun z => c_94 z.2), if_neg (fun z => c_94 z.2)]; exact hR
          · rw [lgz (by omega)] at c_80
            refine lv_bipush (v := (-2)) hx hb dX8_put_83 (by decide) ?_
            refine fs_iret E hr hlk hP hS dX8_put_85 ?_
            have ht0 : tln v = 0 := tln_rest (i := i) (Or.inr c_22) c_80
            refine ⟨?_, ?_, fSame.rf⟩
            · rw [if_pos ht0]
            · rw [if_neg (fun z => z.1 ht0), if_neg (fun z => z.1 ht0)]; exact hR
    · rw [lgz (by omega)] at c_22
      refine lv_iload hx hb dX8_put_25 (lv_at hl 4 rfl) ?_
      refine lv_if_eq (tgt := 51) hx hb dX8_put_27 (by decide) (fun c_27 => ?_) (fun c_27 => ?_)
      · have c_27 := (fb_0 rfl).mp c_27
        refine lv_iconst (v := (nI 0)) hx hb dX8_put_51 (by decide) ?_
        try have e33 : (nI 33).toInt = 33 := rfl
        try have e126 : (nI 126).toInt = 126 := rfl
        refine fs_vi (y := bI (∀ j, j < i + 1 → 33 ≤ byv v j ∧ byv v j ≤ 126)) (bI_f (fun y => c_27 (fun j hj => y j (by omega)))) ?_
        refine lv_istore (lv' := [(6, .int (bI (∀ j, j < i + 1 → 33 ≤ byv v j ∧ byv v j ≤ 126))), (0, .ref (fa g 239)), (1, .long (lN v)), (3, .int (nI i)), (4, .long (lN (rs v i)))]) hx hb dX8_put_52 hl (by decide) rfl (fun ls hl => ?_)
        refine lv_lload hx hb dX8_put_54 (lv_at hl 4 rfl) ?_
        refine lv_bipush (v := (nI 8)) hx hb dX8_put_56 (by decide) ?_
        refine lv_lushr (v := (lN (rs v (i + 1)))) hx hb dX8_put_58 (rs_shr hv) ?_
        refine lv_lstore (lv' := [(4, .long (lN (rs v (i + 1)))), (6, .int (bI (∀ j, j < i + 1 → 33 ≤ byv v j ∧ byv v j ≤ 126))), (0, .ref (fa g 239)), (1, .long (lN v)), (3, .int (nI i))]) hx hb dX8_put_59 hl (by decide) rfl (fun ls hl => ?_)
        refine lv_iinc (v := (nI (i + 1))) (lv' := [(3, .int (nI (i + 1))), (4, .long (lN (rs v (i + 1)))), (6, .int (bI (∀ j, j < i + 1 → 33 ≤ byv v j ∧ byv v j ≤ 126))), (0, .ref (fa g 239)), (1, .long (lN v))]) hx hb dX8_put_61 hl (k := 4) rfl (nI_1 _) (by decide) rfl (fun ls hl => ?_)
        refine lv_goto (tgt := 8) hx hb dX8_put_64 (by decide) ?_
        exact ih (i + 1) ls _ (by (try dsimp only); omega) ⟨lv_sub hl [3, 4, 0, 1, 2] rfl, by omega, fun j hj => if y : j = i then (by subst y; exact c_22) else hI.2 j (by omega)⟩ hS
      · have c_27 := (fb_1 rfl).mp c_27
        refine lv_lload hx hb dX8_put_30 (lv_at hl 3 rfl) ?_
        refine lv_ldc2 (v := 255) hx hb E.1.2.2.2.1 (E.1.2.2.2.2 _ (wm wl_34 (i := 4) rfl)) dX8_put_32 ?_
        refine lv_land hx hb dX8_put_35 ?_
        refine fs_vv (y := .long (lN (byv v i))) (congrArg Value.long (rs_and hv)) ?_
        refine lv_l2i (v := (nI (byv v i))) hx hb dX8_put_36 (lN_i _) ?_
        refine lv_bipush (v := (nI 33)) hx hb dX8_put_37 (by decide) ?_
        refine lv_bipush (v := (nI 126)) hx hb dX8_put_39 (by decide) ?_
        refine fs_pi (va_runS (As := [.int (nI (byv v i)), .int (nI 33), .int (nI 126)]) (rest := []) E.1 (c_X8_within l g N ct (nI (byv v i)) (nI 33) (nI 126)) (lk_RX8_49 E.1.2.2.2.2 ⟨Nat.le_of_ble_eq_true rfl, Nat.le_of_ble_eq_true rfl⟩) (fpreS E hP hS) rfl rfl hl.1 rfl (lv_room (Nat.le_of_ble_eq_true rfl)) dX8_put_41 ⟨Nat.zero_le _, Nat.zero_le _⟩) hS (fun r_41 locs p_41 hS => ?_)
        refine lv_if_eq (tgt := 51) hx hb dX8_put_44 (by decide) (fun c_44 => ?_) (fun c_44 => ?_)
        · have c_44 := (fb_0 p_41).mp c_44
          refine lv_iconst (v := (nI 0)) hx hb dX8_put_51 (by decide) ?_
          try have e33 : (nI 33).toInt = 33 := rfl
          try have e126 : (nI 126).toInt = 126 := rfl
          refine fs_vi (y := bI (∀ j, j < i + 1 → 33 ≤ byv v j ∧ byv v j ≤ 126)) (bI_f (fun y => c_44 (by have := y i (by omega); rw [e33, e126, nI_toInt (by omega)]; omega))) ?_
          refine lv_istore (lv' := [(6, .int (bI (∀ j, j < i + 1 → 33 ≤ byv v j ∧ byv v j ≤ 126))), (0, .ref (fa g 239)), (1, .long (lN v)), (3, .int (nI i)), (4, .long (lN (rs v i)))]) hx hb dX8_put_52 hl (by decide) rfl (fun ls hl => ?_)
          refine lv_lload hx hb dX8_put_54 (lv_at hl 4 rfl) ?_
          refine lv_bipush (v := (nI 8)) hx hb dX8_put_56 (by decide) ?_
          refine lv_lushr (v := (lN (rs v (i + 1)))) hx hb dX8_put_58 (rs_shr hv) ?_
          refine lv_lstore (lv' := [(4, .long (lN (rs v (i + 1)))), (6, .int (bI (∀ j, j < i + 1 → 33 ≤ byv v j ∧ byv v j ≤ 126))), (0, .ref (fa g 239)), (1, .long (lN v)), (3, .int (nI i))]) hx hb dX8_put_59 hl (by decide) rfl (fun ls hl => ?_)
          refine lv_iinc (v := (nI (i + 1))) (lv' := [(3, .int (nI (i + 1))), (4, .long (lN (rs v (i + 1)))), (6, .int (bI (∀ j, j < i + 1 → 33 ≤ byv v j ∧ byv v j ≤ 126))), (0, .ref (fa g 239)), (1, .long (lN v))]) hx hb dX8_put_61 hl (k := 4) rfl (nI_1 _) (by decide) rfl (fun ls hl => ?_)
          refine lv_goto (tgt := 8) hx hb dX8_put_64 (by decide) ?_
          exact ih (i + 1) ls _ (by (try dsimp only); omega) ⟨lv_sub hl [3, 4, 0, 1, 2] rfl, by omega, fun j hj => if y : j = i then (by subst y; exact c_22) else hI.2 j (by omega)⟩ hS
        · have c_44 := (fb_1 p_41).mp c_44
          refine lv_iconst (v := (nI 1)) hx hb dX8_put_47 (by decide) ?_
          refine lv_goto (tgt := 52) hx hb dX8_put_48 (by decide) ?_
          try have e33 : (nI 33).toInt = 33 := rfl
          try have e126 : (nI 126).toInt = 126 := rfl
          refine fs_vi (y := bI (∀ j, j < i + 1 → 33 ≤ byv v j ∧ byv v j ≤ 126)) (bI_t (fun j hj => if y : j = i then (by subst y; rw [e33, e126, nI_toInt (by omega)] at c_44; omega) else c_27 j (by omega))) ?_
          refine lv_istore (lv' := [(6, .int (bI (∀ j, j < i + 1 → 33 ≤ byv v j ∧ byv v j ≤ 126))), (0, .ref (fa g 239)), (1, .long (lN v)), (3, .int (nI i)), (4, .long (lN (rs v i)))]) hx hb dX8_put_52 hl (by decide) rfl (fun ls hl => ?_)
          refine lv_lload hx hb dX8_put_54 (lv_at hl 4 rfl) ?_
          refine lv_bipush (v := (nI 8)) hx hb dX8_put_56 (by decide) ?_
          refine lv_lushr (v := (lN (rs v (i + 1)))) hx hb dX8_put_58 (rs_shr hv) ?_
          refine lv_lstore (lv' := [(4, .long (lN (rs v (i + 1)))), (6, .int (bI (∀ j, j < i + 1 → 33 ≤ byv v j ∧ byv v j ≤ 126))), (0, .ref (fa g 239)), (1, .long (lN v)), (3, .int (nI i))]) hx hb dX8_put_59 hl (by decide) rfl (fun ls hl => ?_)
          refine lv_iinc (v := (nI (i + 1))) (lv' := [(3, .int (nI (i + 1))), (4, .long (lN (rs v (i + 1)))), (6, .int (bI (∀ j, j < i + 1 → 33 ≤ byv v j ∧ byv v j ≤ 126))), (0, .ref (fa g 239)), (1, .long (lN v))]) hx hb dX8_put_61 hl (k := 4) rfl (nI_1 _) (by decide) rfl (fun ls hl => ?_)
          refine lv_goto (tgt := 8) hx hb dX8_put_64 (by decide) ?_
          exact ih (i + 1) ls _ (by (try dsimp only); omega) ⟨lv_sub hl [3, 4, 0, 1, 2] rfl, by omega, fun j hj => if y : j = i then (by subst y; exact c_22) else hI.2 j (by omega)⟩ hS
