/-- the character at a place, -1 behind the end -/
def chF (t : Nat → Nat) (len i : Nat) : Int32 := if i < len then nI (t i) else -1
set_option maxRecDepth 100000 in
set_option maxHeartbeats 4000000 in
theorem c_X8_character (l : Launch) (g : fG) (N : Nat) (ct : Nat → va_E) (z : Nat → Int32) (F : Nat → Nat → Int32) (t : Nat → Nat) (len : Nat) (hN : 249 ≤ N) (hM : MA g ct z F) (hQ : RP t len z F) (i : Nat) (hi : i ≤ 100) : Met l yX8_character (wsU yX8_character cX8_character 2 (some .int)) rX8_character (fPre g N ct [.ref (fa g 239), .int (nI i)]) (fQpi (fun r => r = chF t len i)) 0 0 (fB g) := by
  refine fs_start (own := RX8) (lv0 := [(0, .ref (fa g 239)), (1, .int (nI i))]) (by decide) rfl (Nat.le_of_ble_eq_true rfl) rfl ?_
  intro p e s m args below meth c ls E hr hlk hnm hP hl hS
  have hx := E.1.1
  have hb := E.1.2.1
  have m_1o : ct 239 = .inr (8, [.ref (fa g 240), .ref (fa g 241), .int (z 0), .ref (fa g 242), .ref (fa g 243), .ref (fa g 244), .int (z 1), .ref (fa g 245), .int (z 2), .ref (fa g 246), .ref (fa g 247), .ref (fa g 248), .int (z 3), .int (z 4), .int (z 5), .int (z 6), .int (z 7), .int (z 8), .int (z 9)]) := (hM).1
  have m_1r0 : ct 240 = .inl (fcI g, 121, .inl (F 0)) := (hM).2.1
  have m_1r1 : ct 241 = .inl (fcI g, 726, .inl (F 1)) := (hM).2.2.1
  have m_1r2 : ct 242 = .inl (fcI g, 242, .inl (F 2)) := (hM).2.2.2.1
  have m_1r3 : ct 243 = .inl (fcI g, 2, .inl (F 3)) := (hM).2.2.2.2.1
  have m_1r4 : ct 244 = .inl (fcI g, 60, .inl (F 4)) := (hM).2.2.2.2.2.1
  have m_1r5 : ct 245 = .inl (fcI g, 6, .inl (F 5)) := (hM).2.2.2.2.2.2.1
  have m_1r6 : ct 246 = .inl (fcI g, 36, .inl (F 6)) := (hM).2.2.2.2.2.2.2.1
  have m_1r7 : ct 247 = .inl (fcI g, 20, .inl (F 7)) := (hM).2.2.2.2.2.2.2.2.1
  have m_1r8 : ct 248 = .inl (fcI g, 20, .inl (F 8)) := (hM).2.2.2.2.2.2.2.2.2
  have hl60 := hQ.2.1
  refine lv_iload_n hx hb dX8_character_0 rfl (lv_at hl 1 rfl) ?_
  refine lv_aload_n hx hb dX8_character_1 rfl (lv_at hl 0 rfl) ?_
  refine fs_get E hP (k := 239) (v := .int (z 1)) 6 fc8 m_1o (by omega) (by decide) (wm wl_16 (i := 13) rfl) rfl dX8_character_2 ?_
  refine fs_vi (y := nI len) hQ.1 ?_
  refine lv_icmp_ge (tgt := 17) hx hb dX8_character_5 (by decide) (fun c_5 => ?_) (fun c_5 => ?_)
  · rw [nI_leI (by omega) (by omega)] at c_5
    refine lv_iconst (v := (-1)) hx hb dX8_character_17 (by decide) ?_
    refine fs_piret E hr hlk hS dX8_character_18 ?_
    unfold chF; rw [if_neg (by omega)]
  · rw [nI_leI (by omega) (by omega)] at c_5
    refine lv_aload_n hx hb dX8_character_8 rfl (lv_at hl 0 rfl) ?_
    refine fs_get E hP (k := 239) (v := .ref (fa g 244)) 5 fc8 m_1o (by omega) (by decide) (wm wl_5 (i := 4) rfl) rfl dX8_character_9 ?_
    refine lv_iload_n hx hb dX8_character_12 rfl (lv_at hl 1 rfl) ?_
    refine fs_iald E hP (k := 244) m_1r4 (by omega) (vp_in_nI (by omega) (by omega)) dX8_character_13 ?_
    refine fs_vi (y := (F 4) i) (congrArg (F 4) (nI_clamp (by omega))) ?_
    refine fs_vi (y := (nI (t i))) (hQ.2.2 i (by omega)) ?_
    refine lv_goto (tgt := 18) hx hb dX8_character_14 (by decide) ?_
    refine fs_piret E hr hlk hS dX8_character_18 ?_
    unfold chF; rw [if_pos (by omega)]
