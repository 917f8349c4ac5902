/-! the law: both objects show one state -/
section OGL
variable {g : fG} {ct ct1 : Nat → va_E} {σ : Nat → Int32} {k : Nat} {hs : Nat → Nat → Int32} {u1 u2 : Bool} {s1 s2 : Nat → Int32} {t : Nat → Nat} {len : Nat} {z : Nat → Int32} {F : Nat → Nat → Int32}
theorem OGAt.good (H : OGAt g ct σ k hs u1 s1 u2 s2 t len) : Good σ := by obtain ⟨sv, h, _⟩ := H; exact h.2.2.1
theorem OGAt.obj (H : OGAt g ct σ k hs u1 s1 u2 s2 t len) : ∃ fs, ct 0 = .inr (7, fs) := by obtain ⟨sv, h, _⟩ := H; exact ⟨_, h.1⟩
theorem OGAt.ch (H : OGAt g ct σ k hs u1 s1 u2 s2 t len) : ∀ i, i < len → t i < 128 := by obtain ⟨sv, h, _⟩ := H; exact h.2.2.2.2.2.2.1.2.2.2
theorem OGAt.g1 (H : OGAt g ct σ k hs u1 s1 u2 s2 t len) : u1 = true → Good s1 := by obtain ⟨sv, h, _⟩ := H; exact fun hu => (h.2.2.2.2.1.2.2 hu).2
theorem OGAt.g2 (H : OGAt g ct σ k hs u1 s1 u2 s2 t len) : u2 = true → Good s2 := by obtain ⟨sv, h, _⟩ := H; exact fun hu => (h.2.2.2.2.2.1.2.2 hu).2
theorem OGAt.keep (H : OGAt g ct σ k hs u1 s1 u2 s2 t len) (h : ∀ j, j < 239 → ct1 j = ct j) : OGAt g ct1 σ k hs u1 s1 u2 s2 t len := by
  obtain ⟨sv, ⟨a, b, c, d, x, y, z, w⟩, q⟩ := H
  exact ⟨sv, ⟨(h _ (by omega)).trans a, b.keep (fun j h1 h2 => h j (by omega)), c, d.keep (fun j h1 h2 => h j (by omega)), x.keep (fun j h1 h2 => h j (by omega)), y.keep (fun j h1 h2 => h j (by omega)), z.keep (h _ (by omega)) (h _ (by omega)), w.keep (fun j h1 h2 => h j (by omega))⟩,
    q.elim Or.inl (fun v => Or.inr ⟨v.1, v.2.keep (h _ (by omega)) (h _ (by omega)) (h _ (by omega)) (h _ (by omega))⟩)⟩
theorem MA.keep (M : MA g ct z F) (h : ∀ j, 239 ≤ j → ct1 j = ct j) : MA g ct1 z F := by
  obtain ⟨a, a0, a1, a2, a3, a4, a5, a6, a7, a8⟩ := M
  exact ⟨(h _ (by omega)).trans a, (h _ (by omega)).trans a0, (h _ (by omega)).trans a1, (h _ (by omega)).trans a2, (h _ (by omega)).trans a3, (h _ (by omega)).trans a4, (h _ (by omega)).trans a5, (h _ (by omega)).trans a6, (h _ (by omega)).trans a7, (h _ (by omega)).trans a8⟩
theorem RFAt.keep (H : RFAt g ct σ k hs u1 s1 u2 s2 t len) (h : ∀ j, 239 ≤ j → ct1 j = ct j) : RFAt g ct1 σ k hs u1 s1 u2 s2 t len := by
  obtain ⟨z, F, M, r⟩ := H
  exact ⟨z, F, M.keep h, r⟩
theorem RFAt.obj (H : RFAt g ct σ k hs u1 s1 u2 s2 t len) : ∃ fs, ct 239 = .inr (8, fs) := by obtain ⟨z, F, M, r⟩ := H; exact ⟨_, M.1⟩
end OGL
def lw_J (g : fG) (ct : Nat → va_E) : Prop := ∃ (σ : Nat → Int32) (k : Nat) (hs : Nat → Nat → Int32) (u1 : Bool) (s1 : Nat → Int32) (u2 : Bool) (s2 : Nat → Int32) (t : Nat → Nat) (len : Nat), OGAt g ct σ k hs u1 s1 u2 s2 t len ∧ RFAt g ct σ k hs u1 s1 u2 s2 t len
section LWC
variable {p : Program} {l : Launch} {e : Env} {s : State} {m : MethodId} {below : List Frame} {meth : Method} {c : Code} {H : Heap} {locs : List Loc} {Q : State → Prop} {b L : Nat} {xs : Nat → Int32} {ls : Array Slot} {g : fG} {ct : Nat → va_E} {i : Nat}
set_option maxRecDepth 100000 in
set_option maxHeartbeats 4000000 in
theorem lw_c0 (E : fE p m c cL_law 4 s #[.ref b] RL g) (hX : va_X b L xs s s.heap) (hbl : b < s.heap.size) (hbA : ¬ fB g b) (hL : L ≤ 2560) (hJ : lw_J g ct) (hP : fP g 249 ct H) (hS : va_S (fB g) s.heap H locs) (hi : i + 5 ≤ L) (hl : lv_has ls 4 [(0, .ref b), (1, .ref (fa g 0)), (2, .ref (fa g 239)), (3, .int (nI i))]) (K : ∀ (ct1 : Nat → va_E) (H1 : Heap) (locs1 : List Loc) (ls1 : Array Slot), lw_J g ct1 → fP g 249 ct1 H1 → va_S (fB g) s.heap H1 locs1 → lv_has ls1 4 [(0, .ref b), (1, .ref (fa g 0)), (2, .ref (fa g 239)), (3, .int (nI i))] → W p l e room_1 s m #[.ref b] below meth c H1 locs1 249 2736 Q (F0 m 839 ls1 [])) : W p l e room_1 s m #[.ref b] below meth c H locs 249 2736 Q (F0 m 148 ls []) := by
  obtain ⟨σ, k, hs, u1, s1, u2, s2, t, len, hO, hR⟩ := hJ
  have hx := E.1.1
  have hb := E.1.2.1
  have hG := hO.good
  have h128 := hO.ch
  obtain ⟨f7, h7⟩ := hO.obj
  obtain ⟨f8, h8⟩ := hR.obj
  refine lv_aload_n hx hb dL_law_148 rfl (lv_at hl 1 rfl) ?_
  refine lv_aload_n hx hb dL_law_149 rfl (lv_at hl 0 rfl) ?_
  refine lv_iload_n hx hb dL_law_150 rfl (lv_at hl 3 rfl) ?_
  refine lv_iconst (v := (nI 1)) hx hb dL_law_151 (by decide) ?_
  refine lv_iadd hx hb dL_law_152 ?_
  refine fs_vi (y := nI (i + 1)) (nI_add _ _) ?_
  refine va_sld hx hb hX hbl hbA hS (vp_in_nI (by omega) (by omega)) dL_law_153 ?_
  refine fs_i (va_runV (As := [.int (xs (nI (i + 1)).toNatClampNeg)]) (rest := []) E.1 (c_X7_open l g 249 ct σ k hs u1 s1 u2 s2 t len (by omega) hO (xs (nI (i + 1)).toNatClampNeg)) (lk_RL_13 E.1.2.2.2.2 ⟨Nat.le_of_ble_eq_true rfl, Nat.le_of_ble_eq_true rfl⟩) (fpreV E hP hS fc7 h7 (by omega)) rfl rfl hl.1 rfl (lv_room (Nat.le_of_ble_eq_true rfl)) dL_law_154 ⟨(Nat.le_of_ble_eq_true rfl), (Nat.le_of_ble_eq_true rfl)⟩) hS (fun r_154 ct_1 H locs p_154 hP hS => ?_)
  have hR2 := RFAt.keep hR (fun j h1 => p_154.2.2 j (by omega))
  obtain ⟨f9, h9⟩ := RFAt.obj hR2
  refine lv_aload_n hx hb dL_law_157 rfl (lv_at hl 2 rfl) ?_
  refine lv_aload_n hx hb dL_law_158 rfl (lv_at hl 0 rfl) ?_
  refine lv_iload_n hx hb dL_law_159 rfl (lv_at hl 3 rfl) ?_
  refine lv_iconst (v := (nI 1)) hx hb dL_law_160 (by decide) ?_
  refine lv_iadd hx hb dL_law_161 ?_
  refine fs_vi (y := nI (i + 1)) (nI_add _ _) ?_
  refine va_sld hx hb hX hbl hbA hS (vp_in_nI (by omega) (by omega)) dL_law_162 ?_
  refine fs_i (va_runV (As := [.int (xs (nI (i + 1)).toNatClampNeg)]) (rest := [.int r_154]) E.1 (c_X8_open l g 249 ct_1 σ k hs u1 s1 u2 s2 t len (by omega) hG hR2 (xs (nI (i + 1)).toNatClampNeg)) (lk_RL_17 E.1.2.2.2.2 ⟨Nat.le_of_ble_eq_true rfl, Nat.le_of_ble_eq_true rfl⟩) (fpreV E hP hS fc8 h9 (by omega)) rfl rfl hl.1 rfl (lv_room (Nat.le_of_ble_eq_true rfl)) dL_law_163 ⟨(Nat.le_of_ble_eq_true rfl), (Nat.le_of_ble_eq_true rfl)⟩) hS (fun r_163 ct_2 H locs p_163 hP hS => ?_)
  have hO2 := OGAt.keep p_154.2.1 (fun j h1 => p_163.2.2 j (by omega))
  have hJ2 : lw_J g ct_2 := ⟨_, _, _, _, _, _, _, _, _, hO2, p_163.2.1⟩
  refine lv_icmp_eq (tgt := 839) hx hb dL_law_166 (by decide) (fun c_166 => ?_) (fun c_166 => ?_)
  · exact K _ _ _ _ hJ2 hP hS hl
  · exact absurd (p_154.1.trans p_163.1.symm) c_166
set_option maxRecDepth 100000 in
set_option maxHeartbeats 4000000 in
theorem lw_c1 (E : fE p m c cL_law 4 s #[.ref b] RL g) (hX : va_X b L xs s s.heap) (hbl : b < s.heap.size) (hbA : ¬ fB g b) (hL : L ≤ 2560) (hJ : lw_J g ct) (hP : fP g 249 ct H) (hS : va_S (fB g) s.heap H locs) (hi : i + 5 ≤ L) (hl : lv_has ls 4 [(0, .ref b), (1, .ref (fa g 0)), (2, .ref (fa g 239)), (3, .int (nI i))]) (K : ∀ (ct1 : Nat → va_E) (H1 : Heap) (locs1 : List Loc) (ls1 : Array Slot), lw_J g ct1 → fP g 249 ct1 H1 → va_S (fB g) s.heap H1 locs1 → lv_has ls1 4 [(0, .ref b), (1, .ref (fa g 0)), (2, .ref (fa g 239)), (3, .int (nI i))] → W p l e room_1 s m #[.ref b] below meth c H1 locs1 249 2736 Q (F0 m 839 ls1 [])) : W p l e room_1 s m #[.ref b] below meth c H locs 249 2736 Q (F0 m 171 ls []) := by
  obtain ⟨σ, k, hs, u1, s1, u2, s2, t, len, hO, hR⟩ := hJ
  have hx := E.1.1
  have hb := E.1.2.1
  have hG := hO.good
  have h128 := hO.ch
  obtain ⟨f7, h7⟩ := hO.obj
  obtain ⟨f8, h8⟩ := hR.obj
  refine lv_aload_n hx hb dL_law_171 rfl (lv_at hl 1 rfl) ?_
  refine lv_aload_n hx hb dL_law_172 rfl (lv_at hl 0 rfl) ?_
  refine lv_iload_n hx hb dL_law_173 rfl (lv_at hl 3 rfl) ?_
  refine lv_iconst (v := (nI 1)) hx hb dL_law_174 (by decide) ?_
  refine lv_iadd hx hb dL_law_175 ?_
  refine fs_vi (y := nI (i + 1)) (nI_add _ _) ?_
  refine va_sld hx hb hX hbl hbA hS (vp_in_nI (by omega) (by omega)) dL_law_176 ?_
  refine lv_aload_n hx hb dL_law_177 rfl (lv_at hl 0 rfl) ?_
  refine lv_iload_n hx hb dL_law_178 rfl (lv_at hl 3 rfl) ?_
  refine lv_iconst (v := (nI 2)) hx hb dL_law_179 (by decide) ?_
  refine lv_iadd hx hb dL_law_180 ?_
  refine fs_vi (y := nI (i + 2)) (nI_add _ _) ?_
  refine va_sld hx hb hX hbl hbA hS (vp_in_nI (by omega) (by omega)) dL_law_181 ?_
  refine fs_i (va_runV (As := [.int (xs (nI (i + 1)).toNatClampNeg), .int (xs (nI (i + 2)).toNatClampNeg)]) (rest := []) E.1 (c_X7_look l g 249 ct σ k hs u1 s1 u2 s2 t len (by omega) hO (xs (nI (i + 1)).toNatClampNeg) (xs (nI (i + 2)).toNatClampNeg)) (lk_RL_18 E.1.2.2.2.2 ⟨Nat.le_of_ble_eq_true rfl, Nat.le_of_ble_eq_true rfl⟩) (fpreV E hP hS fc7 h7 (by omega)) rfl rfl hl.1 rfl (lv_room (Nat.le_of_ble_eq_true rfl)) dL_law_182 ⟨(Nat.le_of_ble_eq_true rfl), (Nat.le_of_ble_eq_true rfl)⟩) hS (fun r_182 ct_1 H locs p_182 hP hS => ?_)
  have hR2 := RFAt.keep hR (fun j h1 => p_182.2.2 j (by omega))
  obtain ⟨f9, h9⟩ := RFAt.obj hR2
  refine lv_aload_n hx hb dL_law_185 rfl (lv_at hl 2 rfl) ?_
  refine lv_aload_n hx hb dL_law_186 rfl (lv_at hl 0 rfl) ?_
  refine lv_iload_n hx hb dL_law_187 rfl (lv_at hl 3 rfl) ?_
  refine lv_iconst (v := (nI 1)) hx hb dL_law_188 (by decide) ?_
  refine lv_iadd hx hb dL_law_189 ?_
  refine fs_vi (y := nI (i + 1)) (nI_add _ _) ?_
  refine va_sld hx hb hX hbl hbA hS (vp_in_nI (by omega) (by omega)) dL_law_190 ?_
  refine lv_aload_n hx hb dL_law_191 rfl (lv_at hl 0 rfl) ?_
  refine lv_iload_n hx hb dL_law_192 rfl (lv_at hl 3 rfl) ?_
  refine lv_iconst (v := (nI 2)) hx hb dL_law_193 (by decide) ?_
  refine lv_iadd hx hb dL_law_194 ?_
  refine fs_vi (y := nI (i + 2)) (nI_add _ _) ?_
  refine va_sld hx hb hX hbl hbA hS (vp_in_nI (by omega) (by omega)) dL_law_195 ?_
  refine fs_i (va_runV (As := [.int (xs (nI (i + 1)).toNatClampNeg), .int (xs (nI (i + 2)).toNatClampNeg)]) (rest := [.int r_182]) E.1 (c_X8_look l g 249 ct_1 σ k hs u1 s1 u2 s2 t len (by omega) hG hR2 (xs (nI (i + 1)).toNatClampNeg) (xs (nI (i + 2)).toNatClampNeg)) (lk_RL_22 E.1.2.2.2.2 ⟨Nat.le_of_ble_eq_true rfl, Nat.le_of_ble_eq_true rfl⟩) (fpreV E hP hS fc8 h9 (by omega)) rfl rfl hl.1 rfl (lv_room (Nat.le_of_ble_eq_true rfl)) dL_law_196 ⟨(Nat.le_of_ble_eq_true rfl), (Nat.le_of_ble_eq_true rfl)⟩) hS (fun r_196 ct_2 H locs p_196 hP hS => ?_)
  have hO2 := OGAt.keep p_182.2.1 (fun j h1 => p_196.2.2 j (by omega))
  have hJ2 : lw_J g ct_2 := ⟨_, _, _, _, _, _, _, _, _, hO2, p_196.2.1⟩
  refine lv_icmp_eq (tgt := 839) hx hb dL_law_199 (by decide) (fun c_199 => ?_) (fun c_199 => ?_)
  · exact K _ _ _ _ hJ2 hP hS hl
  · exact absurd (p_182.1.trans p_196.1.symm) c_199
set_option maxRecDepth 100000 in
set_option maxHeartbeats 4000000 in
theorem lw_c2 (E : fE p m c cL_law 4 s #[.ref b] RL g) (hX : va_X b L xs s s.heap) (hbl : b < s.heap.size) (hbA : ¬ fB g b) (hL : L ≤ 2560) (hJ : lw_J g ct) (hP : fP g 249 ct H) (hS : va_S (fB g) s.heap H locs) (hi : i + 5 ≤ L) (hl : lv_has ls 4 [(0, .ref b), (1, .ref (fa g 0)), (2, .ref (fa g 239)), (3, .int (nI i))]) (K : ∀ (ct1 : Nat → va_E) (H1 : Heap) (locs1 : List Loc) (ls1 : Array Slot), lw_J g ct1 → fP g 249 ct1 H1 → va_S (fB g) s.heap H1 locs1 → lv_has ls1 4 [(0, .ref b), (1, .ref (fa g 0)), (2, .ref (fa g 239)), (3, .int (nI i))] → W p l e room_1 s m #[.ref b] below meth c H1 locs1 249 2736 Q (F0 m 839 ls1 [])) : W p l e room_1 s m #[.ref b] below meth c H locs 249 2736 Q (F0 m 204 ls []) := by
  obtain ⟨σ, k, hs, u1, s1, u2, s2, t, len, hO, hR⟩ := hJ
  have hx := E.1.1
  have hb := E.1.2.1
  have hG := hO.good
  have h128 := hO.ch
  obtain ⟨f7, h7⟩ := hO.obj
  obtain ⟨f8, h8⟩ := hR.obj
  refine lv_aload_n hx hb dL_law_204 rfl (lv_at hl 1 rfl) ?_
  refine lv_aload_n hx hb dL_law_205 rfl (lv_at hl 0 rfl) ?_
  refine lv_iload_n hx hb dL_law_206 rfl (lv_at hl 3 rfl) ?_
  refine lv_iconst (v := (nI 1)) hx hb dL_law_207 (by decide) ?_
  refine lv_iadd hx hb dL_law_208 ?_
  refine fs_vi (y := nI (i + 1)) (nI_add _ _) ?_
  refine va_sld hx hb hX hbl hbA hS (vp_in_nI (by omega) (by omega)) dL_law_209 ?_
  refine lv_aload_n hx hb dL_law_210 rfl (lv_at hl 0 rfl) ?_
  refine lv_iload_n hx hb dL_law_211 rfl (lv_at hl 3 rfl) ?_
  refine lv_iconst (v := (nI 2)) hx hb dL_law_212 (by decide) ?_
  refine lv_iadd hx hb dL_law_213 ?_
  refine fs_vi (y := nI (i + 2)) (nI_add _ _) ?_
  refine va_sld hx hb hX hbl hbA hS (vp_in_nI (by omega) (by omega)) dL_law_214 ?_
  refine lv_aload_n hx hb dL_law_215 rfl (lv_at hl 0 rfl) ?_
  refine lv_iload_n hx hb dL_law_216 rfl (lv_at hl 3 rfl) ?_
  refine lv_iconst (v := (nI 3)) hx hb dL_law_217 (by decide) ?_
  refine lv_iadd hx hb dL_law_218 ?_
  refine fs_vi (y := nI (i + 3)) (nI_add _ _) ?_
  refine va_sld hx hb hX hbl hbA hS (vp_in_nI (by omega) (by omega)) dL_law_219 ?_
  refine lv_aload_n hx hb dL_law_220 rfl (lv_at hl 0 rfl) ?_
  refine lv_iload_n hx hb dL_law_221 rfl (lv_at hl 3 rfl) ?_
  refine lv_iconst (v := (nI 4)) hx hb dL_law_222 (by decide) ?_
  refine lv_iadd hx hb dL_law_223 ?_
  refine fs_vi (y := nI (i + 4)) (nI_add _ _) ?_
  refine va_sld hx hb hX hbl hbA hS (vp_in_nI (by omega) (by omega)) dL_law_224 ?_
  refine fs_i (va_runV (As := [.int (xs (nI (i + 1)).toNatClampNeg), .int (xs (nI (i + 2)).toNatClampNeg), .int (xs (nI (i + 3)).toNatClampNeg), .int (xs (nI (i + 4)).toNatClampNeg)]) (rest := []) E.1 (c_X7_tell l g 249 ct σ k hs u1 s1 u2 s2 t len (by omega) hO (xs (nI (i + 1)).toNatClampNeg) (xs (nI (i + 2)).toNatClampNeg) (xs (nI (i + 3)).toNatClampNeg) (xs (nI (i + 4)).toNatClampNeg)) (lk_RL_23 E.1.2.2.2.2 ⟨Nat.le_of_ble_eq_true rfl, Nat.le_of_ble_eq_true rfl⟩) (fpreV E hP hS fc7 h7 (by omega)) rfl rfl hl.1 rfl (lv_room (Nat.le_of_ble_eq_true rfl)) dL_law_225 ⟨(Nat.le_of_ble_eq_true rfl), (Nat.le_of_ble_eq_true rfl)⟩) hS (fun r_225 ct_1 H locs p_225 hP hS => ?_)
  have hR2 := RFAt.keep hR (fun j h1 => p_225.2.2 j (by omega))
  obtain ⟨f9, h9⟩ := RFAt.obj hR2
  refine lv_aload_n hx hb dL_law_228 rfl (lv_at hl 2 rfl) ?_
  refine lv_aload_n hx hb dL_law_229 rfl (lv_at hl 0 rfl) ?_
  refine lv_iload_n hx hb dL_law_230 rfl (lv_at hl 3 rfl) ?_
  refine lv_iconst (v := (nI 1)) hx hb dL_law_231 (by decide) ?_
  refine lv_iadd hx hb dL_law_232 ?_
  refine fs_vi (y := nI (i + 1)) (nI_add _ _) ?_
  refine va_sld hx hb hX hbl hbA hS (vp_in_nI (by omega) (by omega)) dL_law_233 ?_
  refine lv_aload_n hx hb dL_law_234 rfl (lv_at hl 0 rfl) ?_
  refine lv_iload_n hx hb dL_law_235 rfl (lv_at hl 3 rfl) ?_
  refine lv_iconst (v := (nI 2)) hx hb dL_law_236 (by decide) ?_
  refine lv_iadd hx hb dL_law_237 ?_
  refine fs_vi (y := nI (i + 2)) (nI_add _ _) ?_
  refine va_sld hx hb hX hbl hbA hS (vp_in_nI (by omega) (by omega)) dL_law_238 ?_
  refine lv_aload_n hx hb dL_law_239 rfl (lv_at hl 0 rfl) ?_
  refine lv_iload_n hx hb dL_law_240 rfl (lv_at hl 3 rfl) ?_
  refine lv_iconst (v := (nI 3)) hx hb dL_law_241 (by decide) ?_
  refine lv_iadd hx hb dL_law_242 ?_
  refine fs_vi (y := nI (i + 3)) (nI_add _ _) ?_
  refine va_sld hx hb hX hbl hbA hS (vp_in_nI (by omega) (by omega)) dL_law_243 ?_
  refine lv_aload_n hx hb dL_law_244 rfl (lv_at hl 0 rfl) ?_
  refine lv_iload_n hx hb dL_law_245 rfl (lv_at hl 3 rfl) ?_
  refine lv_iconst (v := (nI 4)) hx hb dL_law_246 (by decide) ?_
  refine lv_iadd hx hb dL_law_247 ?_
  refine fs_vi (y := nI (i + 4)) (nI_add _ _) ?_
  refine va_sld hx hb hX hbl hbA hS (vp_in_nI (by omega) (by omega)) dL_law_248 ?_
  refine fs_i (va_runV (As := [.int (xs (nI (i + 1)).toNatClampNeg), .int (xs (nI (i + 2)).toNatClampNeg), .int (xs (nI (i + 3)).toNatClampNeg), .int (xs (nI (i + 4)).toNatClampNeg)]) (rest := [.int r_225]) E.1 (c_X8_tell l g 249 ct_1 σ k hs u1 s1 u2 s2 t len (by omega) hG hR2 (xs (nI (i + 1)).toNatClampNeg) (xs (nI (i + 2)).toNatClampNeg) (xs (nI (i + 3)).toNatClampNeg) (xs (nI (i + 4)).toNatClampNeg)) (lk_RL_27 E.1.2.2.2.2 ⟨Nat.le_of_ble_eq_true rfl, Nat.le_of_ble_eq_true rfl⟩) (fpreV E hP hS fc8 h9 (by omega)) rfl rfl hl.1 rfl (lv_room (Nat.le_of_ble_eq_true rfl)) dL_law_249 ⟨(Nat.le_of_ble_eq_true rfl), (Nat.le_of_ble_eq_true rfl)⟩) hS (fun r_249 ct_2 H locs p_249 hP hS => ?_)
  have hO2 := OGAt.keep p_225.2.1 (fun j h1 => p_249.2.2 j (by omega))
  have hJ2 : lw_J g ct_2 := ⟨_, _, _, _, _, _, _, _, _, hO2, p_249.2.1⟩
  refine lv_icmp_eq (tgt := 839) hx hb dL_law_252 (by decide) (fun c_252 => ?_) (fun c_252 => ?_)
  · exact K _ _ _ _ hJ2 hP hS hl
  · exact absurd (p_225.1.trans p_249.1.symm) c_252
set_option maxRecDepth 100000 in
set_option maxHeartbeats 4000000 in
theorem lw_c3 (E : fE p m c cL_law 4 s #[.ref b] RL g) (hX : va_X b L xs s s.heap) (hbl : b < s.heap.size) (hbA : ¬ fB g b) (hL : L ≤ 2560) (hJ : lw_J g ct) (hP : fP g 249 ct H) (hS : va_S (fB g) s.heap H locs) (hi : i + 5 ≤ L) (hl : lv_has ls 4 [(0, .ref b), (1, .ref (fa g 0)), (2, .ref (fa g 239)), (3, .int (nI i))]) (K : ∀ (ct1 : Nat → va_E) (H1 : Heap) (locs1 : List Loc) (ls1 : Array Slot), lw_J g ct1 → fP g 249 ct1 H1 → va_S (fB g) s.heap H1 locs1 → lv_has ls1 4 [(0, .ref b), (1, .ref (fa g 0)), (2, .ref (fa g 239)), (3, .int (nI i))] → W p l e room_1 s m #[.ref b] below meth c H1 locs1 249 2736 Q (F0 m 839 ls1 [])) : W p l e room_1 s m #[.ref b] below meth c H locs 249 2736 Q (F0 m 257 ls []) := by
  obtain ⟨σ, k, hs, u1, s1, u2, s2, t, len, hO, hR⟩ := hJ
  have hx := E.1.1
  have hb := E.1.2.1
  have hG := hO.good
  have h128 := hO.ch
  obtain ⟨f7, h7⟩ := hO.obj
  obtain ⟨f8, h8⟩ := hR.obj
  refine lv_aload_n hx hb dL_law_257 rfl (lv_at hl 1 rfl) ?_
  refine fs_i (va_runV (As := []) (rest := []) E.1 (c_X7_tellAll l g 249 ct σ k hs u1 s1 u2 s2 t len (by omega) hO ) (lk_RL_28 E.1.2.2.2.2 ⟨Nat.le_of_ble_eq_true rfl, Nat.le_of_ble_eq_true rfl⟩) (fpreV E hP hS fc7 h7 (by omega)) rfl rfl hl.1 rfl (lv_room (Nat.le_of_ble_eq_true rfl)) dL_law_258 ⟨(Nat.le_of_ble_eq_true rfl), (Nat.le_of_ble_eq_true rfl)⟩) hS (fun r_258 ct_1 H locs p_258 hP hS => ?_)
  have hR2 := RFAt.keep hR (fun j h1 => p_258.2.2 j (by omega))
  obtain ⟨f9, h9⟩ := RFAt.obj hR2
  refine lv_aload_n hx hb dL_law_261 rfl (lv_at hl 2 rfl) ?_
  refine fs_i (va_runV (As := []) (rest := [.int r_258]) E.1 (c_X8_tellAll l g 249 ct_1 σ k hs u1 s1 u2 s2 t len (by omega) hG hR2 h128) (lk_RL_32 E.1.2.2.2.2 ⟨Nat.le_of_ble_eq_true rfl, Nat.le_of_ble_eq_true rfl⟩) (fpreV E hP hS fc8 h9 (by omega)) rfl rfl hl.1 rfl (lv_room (Nat.le_of_ble_eq_true rfl)) dL_law_262 ⟨(Nat.le_of_ble_eq_true rfl), (Nat.le_of_ble_eq_true rfl)⟩) hS (fun r_262 ct_2 H locs p_262 hP hS => ?_)
  have hO2 := OGAt.keep p_258.2.1 (fun j h1 => p_262.2.2 j (by omega))
  have hJ2 : lw_J g ct_2 := ⟨_, _, _, _, _, _, _, _, _, hO2, p_262.2.1⟩
  refine lv_icmp_eq (tgt := 839) hx hb dL_law_265 (by decide) (fun c_265 => ?_) (fun c_265 => ?_)
  · exact K _ _ _ _ hJ2 hP hS hl
  · exact absurd (p_258.1.trans p_262.1.symm) c_265
set_option maxRecDepth 100000 in
set_option maxHeartbeats 4000000 in
theorem lw_c4 (E : fE p m c cL_law 4 s #[.ref b] RL g) (hX : va_X b L xs s s.heap) (hbl : b < s.heap.size) (hbA : ¬ fB g b) (hL : L ≤ 2560) (hJ : lw_J g ct) (hP : fP g 249 ct H) (hS : va_S (fB g) s.heap H locs) (hi : i + 5 ≤ L) (hl : lv_has ls 4 [(0, .ref b), (1, .ref (fa g 0)), (2, .ref (fa g 239)), (3, .int (nI i))]) (K : ∀ (ct1 : Nat → va_E) (H1 : Heap) (locs1 : List Loc) (ls1 : Array Slot), lw_J g ct1 → fP g 249 ct1 H1 → va_S (fB g) s.heap H1 locs1 → lv_has ls1 4 [(0, .ref b), (1, .ref (fa g 0)), (2, .ref (fa g 239)), (3, .int (nI i))] → W p l e room_1 s m #[.ref b] below meth c H1 locs1 249 2736 Q (F0 m 839 ls1 [])) : W p l e room_1 s m #[.ref b] below meth c H locs 249 2736 Q (F0 m 270 ls []) := by
  obtain ⟨σ, k, hs, u1, s1, u2, s2, t, len, hO, hR⟩ := hJ
  have hx := E.1.1
  have hb := E.1.2.1
  have hG := hO.good
  have h128 := hO.ch
  obtain ⟨f7, h7⟩ := hO.obj
  obtain ⟨f8, h8⟩ := hR.obj
  refine lv_aload_n hx hb dL_law_270 rfl (lv_at hl 1 rfl) ?_
  refine lv_aload_n hx hb dL_law_271 rfl (lv_at hl 0 rfl) ?_
  refine lv_iload_n hx hb dL_law_272 rfl (lv_at hl 3 rfl) ?_
  refine lv_iconst (v := (nI 1)) hx hb dL_law_273 (by decide) ?_
  refine lv_iadd hx hb dL_law_274 ?_
  refine fs_vi (y := nI (i + 1)) (nI_add _ _) ?_
  refine va_sld hx hb hX hbl hbA hS (vp_in_nI (by omega) (by omega)) dL_law_275 ?_
  refine lv_aload_n hx hb dL_law_276 rfl (lv_at hl 0 rfl) ?_
  refine lv_iload_n hx hb dL_law_277 rfl (lv_at hl 3 rfl) ?_
  refine lv_iconst (v := (nI 2)) hx hb dL_law_278 (by decide) ?_
  refine lv_iadd hx hb dL_law_279 ?_
  refine fs_vi (y := nI (i + 2)) (nI_add _ _) ?_
  refine va_sld hx hb hX hbl hbA hS (vp_in_nI (by omega) (by omega)) dL_law_280 ?_
  refine lv_if_eq (tgt := 288) hx hb dL_law_281 (by decide) (fun c_281 => ?_) (fun c_281 => ?_)
  · refine lv_iconst (v := (nI 0)) hx hb dL_law_288 (by decide) ?_
    refine fs_vi (y := bI (false = true)) (bI_f Bool.false_ne_true) ?_
    refine fs_i (va_runV (As := [.int (xs (nI (i + 1)).toNatClampNeg), .int (bI (false = true))]) (rest := []) E.1 (c_X7_prove l g 249 ct σ k hs u1 s1 u2 s2 t len (by omega) hO (xs (nI (i + 1)).toNatClampNeg) false) (lk_RL_33 E.1.2.2.2.2 ⟨Nat.le_of_ble_eq_true rfl, Nat.le_of_ble_eq_true rfl⟩) (fpreV E hP hS fc7 h7 (by omega)) rfl rfl hl.1 rfl (lv_room (Nat.le_of_ble_eq_true rfl)) dL_law_289 ⟨(Nat.le_of_ble_eq_true rfl), (Nat.le_of_ble_eq_true rfl)⟩) hS (fun r_289 ct_1 H locs p_289 hP hS => ?_)
    have hR2 := RFAt.keep hR (fun j h1 => p_289.2.2 j (by omega))
    obtain ⟨f9, h9⟩ := RFAt.obj hR2
    refine lv_aload_n hx hb dL_law_292 rfl (lv_at hl 2 rfl) ?_
    refine lv_aload_n hx hb dL_law_293 rfl (lv_at hl 0 rfl) ?_
    refine lv_iload_n hx hb dL_law_294 rfl (lv_at hl 3 rfl) ?_
    refine lv_iconst (v := (nI 1)) hx hb dL_law_295 (by decide) ?_
    refine lv_iadd hx hb dL_law_296 ?_
    refine fs_vi (y := nI (i + 1)) (nI_add _ _) ?_
    refine va_sld hx hb hX hbl hbA hS (vp_in_nI (by omega) (by omega)) dL_law_297 ?_
    refine lv_aload_n hx hb dL_law_298 rfl (lv_at hl 0 rfl) ?_
    refine lv_iload_n hx hb dL_law_299 rfl (lv_at hl 3 rfl) ?_
    refine lv_iconst (v := (nI 2)) hx hb dL_law_300 (by decide) ?_
    refine lv_iadd hx hb dL_law_301 ?_
    refine fs_vi (y := nI (i + 2)) (nI_add _ _) ?_
    refine va_sld hx hb hX hbl hbA hS (vp_in_nI (by omega) (by omega)) dL_law_302 ?_
    refine lv_if_eq (tgt := 310) hx hb dL_law_303 (by decide) (fun c_303 => ?_) (fun c_303 => ?_)
    · refine lv_iconst (v := (nI 0)) hx hb dL_law_310 (by decide) ?_
      refine fs_vi (y := bI (false = true)) (bI_f Bool.false_ne_true) ?_
      refine fs_i (va_runV (As := [.int (xs (nI (i + 1)).toNatClampNeg), .int (bI (false = true))]) (rest := [.int r_289]) E.1 (c_X8_prove l g 249 ct_1 σ k hs u1 s1 u2 s2 t len (by omega) hG hR2 (xs (nI (i + 1)).toNatClampNeg) false) (lk_RL_37 E.1.2.2.2.2 ⟨Nat.le_of_ble_eq_true rfl, Nat.le_of_ble_eq_true rfl⟩) (fpreV E hP hS fc8 h9 (by omega)) rfl rfl hl.1 rfl (lv_room (Nat.le_of_ble_eq_true rfl)) dL_law_311 ⟨(Nat.le_of_ble_eq_true rfl), (Nat.le_of_ble_eq_true rfl)⟩) hS (fun r_311 ct_2 H locs p_311 hP hS => ?_)
      have hO2 := OGAt.keep p_289.2.1 (fun j h1 => p_311.2.2 j (by omega))
      have hJ2 : lw_J g ct_2 := ⟨_, _, _, _, _, _, _, _, _, hO2, p_311.2.1⟩
      refine lv_icmp_eq (tgt := 839) hx hb dL_law_314 (by decide) (fun c_314 => ?_) (fun c_314 => ?_)
      · exact K _ _ _ _ hJ2 hP hS hl
      · exact absurd (p_289.1.trans p_311.1.symm) c_314
    · exact absurd c_281 c_303
  · refine lv_iconst (v := (nI 1)) hx hb dL_law_284 (by decide) ?_
    refine lv_goto (tgt := 289) hx hb dL_law_285 (by decide) ?_
    refine fs_vi (y := bI (true = true)) (bI_t rfl) ?_
    refine fs_i (va_runV (As := [.int (xs (nI (i + 1)).toNatClampNeg), .int (bI (true = true))]) (rest := []) E.1 (c_X7_prove l g 249 ct σ k hs u1 s1 u2 s2 t len (by omega) hO (xs (nI (i + 1)).toNatClampNeg) true) (lk_RL_33 E.1.2.2.2.2 ⟨Nat.le_of_ble_eq_true rfl, Nat.le_of_ble_eq_true rfl⟩) (fpreV E hP hS fc7 h7 (by omega)) rfl rfl hl.1 rfl (lv_room (Nat.le_of_ble_eq_true rfl)) dL_law_289 ⟨(Nat.le_of_ble_eq_true rfl), (Nat.le_of_ble_eq_true rfl)⟩) hS (fun r_289 ct_3 H locs p_289 hP hS => ?_)
    have hR2 := RFAt.keep hR (fun j h1 => p_289.2.2 j (by omega))
    obtain ⟨f9, h9⟩ := RFAt.obj hR2
    refine lv_aload_n hx hb dL_law_292 rfl (lv_at hl 2 rfl) ?_
    refine lv_aload_n hx hb dL_law_293 rfl (lv_at hl 0 rfl) ?_
    refine lv_iload_n hx hb dL_law_294 rfl (lv_at hl 3 rfl) ?_
    refine lv_iconst (v := (nI 1)) hx hb dL_law_295 (by decide) ?_
    refine lv_iadd hx hb dL_law_296 ?_
    refine fs_vi (y := nI (i + 1)) (nI_add _ _) ?_
    refine va_sld hx hb hX hbl hbA hS (vp_in_nI (by omega) (by omega)) dL_law_297 ?_
    refine lv_aload_n hx hb dL_law_298 rfl (lv_at hl 0 rfl) ?_
    refine lv_iload_n hx hb dL_law_299 rfl (lv_at hl 3 rfl) ?_
    refine lv_iconst (v := (nI 2)) hx hb dL_law_300 (by decide) ?_
    refine lv_iadd hx hb dL_law_301 ?_
    refine fs_vi (y := nI (i + 2)) (nI_add _ _) ?_
    refine va_sld hx hb hX hbl hbA hS (vp_in_nI (by omega) (by omega)) dL_law_302 ?_
    refine lv_if_eq (tgt := 310) hx hb dL_law_303 (by decide) (fun c_303 => ?_) (fun c_303 => ?_)
    · exact absurd c_303 c_281
    · refine lv_iconst (v := (nI 1)) hx hb dL_law_306 (by decide) ?_
      refine lv_goto (tgt := 311) hx hb dL_law_307 (by decide) ?_
      refine fs_vi (y := bI (true = true)) (bI_t rfl) ?_
      refine fs_i (va_runV (As := [.int (xs (nI (i + 1)).toNatClampNeg), .int (bI (true = true))]) (rest := [.int r_289]) E.1 (c_X8_prove l g 249 ct_3 σ k hs u1 s1 u2 s2 t len (by omega) hG hR2 (xs (nI (i + 1)).toNatClampNeg) true) (lk_RL_37 E.1.2.2.2.2 ⟨Nat.le_of_ble_eq_true rfl, Nat.le_of_ble_eq_true rfl⟩) (fpreV E hP hS fc8 h9 (by omega)) rfl rfl hl.1 rfl (lv_room (Nat.le_of_ble_eq_true rfl)) dL_law_311 ⟨(Nat.le_of_ble_eq_true rfl), (Nat.le_of_ble_eq_true rfl)⟩) hS (fun r_311 ct_4 H locs p_311 hP hS => ?_)
      have hO2 := OGAt.keep p_289.2.1 (fun j h1 => p_311.2.2 j (by omega))
      have hJ2 : lw_J g ct_4 := ⟨_, _, _, _, _, _, _, _, _, hO2, p_311.2.1⟩
      refine lv_icmp_eq (tgt := 839) hx hb dL_law_314 (by decide) (fun c_314 => ?_) (fun c_314 => ?_)
      · exact K _ _ _ _ hJ2 hP hS hl
      · exact absurd (p_289.1.trans p_311.1.symm) c_314
set_option maxRecDepth 100000 in
set_option maxHeartbeats 4000000 in
theorem lw_c5 (E : fE p m c cL_law 4 s #[.ref b] RL g) (hX : va_X b L xs s s.heap) (hbl : b < s.heap.size) (hbA : ¬ fB g b) (hL : L ≤ 2560) (hJ : lw_J g ct) (hP : fP g 249 ct H) (hS : va_S (fB g) s.heap H locs) (hi : i + 5 ≤ L) (hl : lv_has ls 4 [(0, .ref b), (1, .ref (fa g 0)), (2, .ref (fa g 239)), (3, .int (nI i))]) (K : ∀ (ct1 : Nat → va_E) (H1 : Heap) (locs1 : List Loc) (ls1 : Array Slot), lw_J g ct1 → fP g 249 ct1 H1 → va_S (fB g) s.heap H1 locs1 → lv_has ls1 4 [(0, .ref b), (1, .ref (fa g 0)), (2, .ref (fa g 239)), (3, .int (nI i))] → W p l e room_1 s m #[.ref b] below meth c H1 locs1 249 2736 Q (F0 m 839 ls1 [])) : W p l e room_1 s m #[.ref b] below meth c H locs 249 2736 Q (F0 m 319 ls []) := by
  obtain ⟨σ, k, hs, u1, s1, u2, s2, t, len, hO, hR⟩ := hJ
  have hx := E.1.1
  have hb := E.1.2.1
  have hG := hO.good
  have h128 := hO.ch
  obtain ⟨f7, h7⟩ := hO.obj
  obtain ⟨f8, h8⟩ := hR.obj
  refine lv_aload_n hx hb dL_law_319 rfl (lv_at hl 1 rfl) ?_
  refine fs_i (va_runV (As := []) (rest := []) E.1 (c_X7_reveal l g 249 ct σ k hs u1 s1 u2 s2 t len (by omega) hO ) (lk_RL_38 E.1.2.2.2.2 ⟨Nat.le_of_ble_eq_true rfl, Nat.le_of_ble_eq_true rfl⟩) (fpreV E hP hS fc7 h7 (by omega)) rfl rfl hl.1 rfl (lv_room (Nat.le_of_ble_eq_true rfl)) dL_law_320 ⟨(Nat.le_of_ble_eq_true rfl), (Nat.le_of_ble_eq_true rfl)⟩) hS (fun r_320 ct_1 H locs p_320 hP hS => ?_)
  have hR2 := RFAt.keep hR (fun j h1 => p_320.2.2 j (by omega))
  obtain ⟨f9, h9⟩ := RFAt.obj hR2
  refine lv_aload_n hx hb dL_law_323 rfl (lv_at hl 2 rfl) ?_
  refine fs_i (va_runV (As := []) (rest := [.int r_320]) E.1 (c_X8_reveal l g 249 ct_1 σ k hs u1 s1 u2 s2 t len (by omega) hG hR2 ) (lk_RL_41 E.1.2.2.2.2 ⟨Nat.le_of_ble_eq_true rfl, Nat.le_of_ble_eq_true rfl⟩) (fpreV E hP hS fc8 h9 (by omega)) rfl rfl hl.1 rfl (lv_room (Nat.le_of_ble_eq_true rfl)) dL_law_324 ⟨(Nat.le_of_ble_eq_true rfl), (Nat.le_of_ble_eq_true rfl)⟩) hS (fun r_324 ct_2 H locs p_324 hP hS => ?_)
  have hO2 := OGAt.keep p_320.2.1 (fun j h1 => p_324.2.2 j (by omega))
  have hJ2 : lw_J g ct_2 := ⟨_, _, _, _, _, _, _, _, _, hO2, p_324.2.1⟩
  refine lv_icmp_eq (tgt := 839) hx hb dL_law_327 (by decide) (fun c_327 => ?_) (fun c_327 => ?_)
  · exact K _ _ _ _ hJ2 hP hS hl
  · exact absurd (p_320.1.trans p_324.1.symm) c_327
set_option maxRecDepth 100000 in
set_option maxHeartbeats 4000000 in
theorem lw_c6 (E : fE p m c cL_law 4 s #[.ref b] RL g) (hX : va_X b L xs s s.heap) (hbl : b < s.heap.size) (hbA : ¬ fB g b) (hL : L ≤ 2560) (hJ : lw_J g ct) (hP : fP g 249 ct H) (hS : va_S (fB g) s.heap H locs) (hi : i + 5 ≤ L) (hl : lv_has ls 4 [(0, .ref b), (1, .ref (fa g 0)), (2, .ref (fa g 239)), (3, .int (nI i))]) (K : ∀ (ct1 : Nat → va_E) (H1 : Heap) (locs1 : List Loc) (ls1 : Array Slot), lw_J g ct1 → fP g 249 ct1 H1 → va_S (fB g) s.heap H1 locs1 → lv_has ls1 4 [(0, .ref b), (1, .ref (fa g 0)), (2, .ref (fa g 239)), (3, .int (nI i))] → W p l e room_1 s m #[.ref b] below meth c H1 locs1 249 2736 Q (F0 m 839 ls1 [])) : W p l e room_1 s m #[.ref b] below meth c H locs 249 2736 Q (F0 m 332 ls []) := by
  obtain ⟨σ, k, hs, u1, s1, u2, s2, t, len, hO, hR⟩ := hJ
  have hx := E.1.1
  have hb := E.1.2.1
  have hG := hO.good
  have h128 := hO.ch
  obtain ⟨f7, h7⟩ := hO.obj
  obtain ⟨f8, h8⟩ := hR.obj
  refine lv_aload_n hx hb dL_law_332 rfl (lv_at hl 1 rfl) ?_
  refine lv_aload_n hx hb dL_law_333 rfl (lv_at hl 0 rfl) ?_
  refine lv_iload_n hx hb dL_law_334 rfl (lv_at hl 3 rfl) ?_
  refine lv_iconst (v := (nI 1)) hx hb dL_law_335 (by decide) ?_
  refine lv_iadd hx hb dL_law_336 ?_
  refine fs_vi (y := nI (i + 1)) (nI_add _ _) ?_
  refine va_sld hx hb hX hbl hbA hS (vp_in_nI (by omega) (by omega)) dL_law_337 ?_
  refine fs_i (va_runV (As := [.int (xs (nI (i + 1)).toNatClampNeg)]) (rest := []) E.1 (c_X7_doubt l g 249 ct σ k hs u1 s1 u2 s2 t len (by omega) hO (xs (nI (i + 1)).toNatClampNeg)) (lk_RL_42 E.1.2.2.2.2 ⟨Nat.le_of_ble_eq_true rfl, Nat.le_of_ble_eq_true rfl⟩) (fpreV E hP hS fc7 h7 (by omega)) rfl rfl hl.1 rfl (lv_room (Nat.le_of_ble_eq_true rfl)) dL_law_338 ⟨(Nat.le_of_ble_eq_true rfl), (Nat.le_of_ble_eq_true rfl)⟩) hS (fun r_338 ct_1 H locs p_338 hP hS => ?_)
  have hR2 := RFAt.keep hR (fun j h1 => p_338.2.2 j (by omega))
  obtain ⟨f9, h9⟩ := RFAt.obj hR2
  refine lv_aload_n hx hb dL_law_341 rfl (lv_at hl 2 rfl) ?_
  refine lv_aload_n hx hb dL_law_342 rfl (lv_at hl 0 rfl) ?_
  refine lv_iload_n hx hb dL_law_343 rfl (lv_at hl 3 rfl) ?_
  refine lv_iconst (v := (nI 1)) hx hb dL_law_344 (by decide) ?_
  refine lv_iadd hx hb dL_law_345 ?_
  refine fs_vi (y := nI (i + 1)) (nI_add _ _) ?_
  refine va_sld hx hb hX hbl hbA hS (vp_in_nI (by omega) (by omega)) dL_law_346 ?_
  refine fs_i (va_runV (As := [.int (xs (nI (i + 1)).toNatClampNeg)]) (rest := [.int r_338]) E.1 (c_X8_doubt l g 249 ct_1 σ k hs u1 s1 u2 s2 t len (by omega) hG hR2 (xs (nI (i + 1)).toNatClampNeg)) (lk_RL_45 E.1.2.2.2.2 ⟨Nat.le_of_ble_eq_true rfl, Nat.le_of_ble_eq_true rfl⟩) (fpreV E hP hS fc8 h9 (by omega)) rfl rfl hl.1 rfl (lv_room (Nat.le_of_ble_eq_true rfl)) dL_law_347 ⟨(Nat.le_of_ble_eq_true rfl), (Nat.le_of_ble_eq_true rfl)⟩) hS (fun r_347 ct_2 H locs p_347 hP hS => ?_)
  have hO2 := OGAt.keep p_338.2.1 (fun j h1 => p_347.2.2 j (by omega))
  have hJ2 : lw_J g ct_2 := ⟨_, _, _, _, _, _, _, _, _, hO2, p_347.2.1⟩
  refine lv_icmp_eq (tgt := 839) hx hb dL_law_350 (by decide) (fun c_350 => ?_) (fun c_350 => ?_)
  · exact K _ _ _ _ hJ2 hP hS hl
  · exact absurd (p_338.1.trans p_347.1.symm) c_350
set_option maxRecDepth 100000 in
set_option maxHeartbeats 4000000 in
theorem lw_c7 (E : fE p m c cL_law 4 s #[.ref b] RL g) (hX : va_X b L xs s s.heap) (hbl : b < s.heap.size) (hbA : ¬ fB g b) (hL : L ≤ 2560) (hJ : lw_J g ct) (hP : fP g 249 ct H) (hS : va_S (fB g) s.heap H locs) (hi : i + 5 ≤ L) (hl : lv_has ls 4 [(0, .ref b), (1, .ref (fa g 0)), (2, .ref (fa g 239)), (3, .int (nI i))]) (K : ∀ (ct1 : Nat → va_E) (H1 : Heap) (locs1 : List Loc) (ls1 : Array Slot), lw_J g ct1 → fP g 249 ct1 H1 → va_S (fB g) s.heap H1 locs1 → lv_has ls1 4 [(0, .ref b), (1, .ref (fa g 0)), (2, .ref (fa g 239)), (3, .int (nI i))] → W p l e room_1 s m #[.ref b] below meth c H1 locs1 249 2736 Q (F0 m 839 ls1 [])) : W p l e room_1 s m #[.ref b] below meth c H locs 249 2736 Q (F0 m 355 ls []) := by
  obtain ⟨σ, k, hs, u1, s1, u2, s2, t, len, hO, hR⟩ := hJ
  have hx := E.1.1
  have hb := E.1.2.1
  have hG := hO.good
  have h128 := hO.ch
  obtain ⟨f7, h7⟩ := hO.obj
  obtain ⟨f8, h8⟩ := hR.obj
  refine lv_aload_n hx hb dL_law_355 rfl (lv_at hl 1 rfl) ?_
  refine lv_aload_n hx hb dL_law_356 rfl (lv_at hl 0 rfl) ?_
  refine lv_iload_n hx hb dL_law_357 rfl (lv_at hl 3 rfl) ?_
  refine lv_iconst (v := (nI 1)) hx hb dL_law_358 (by decide) ?_
  refine lv_iadd hx hb dL_law_359 ?_
  refine fs_vi (y := nI (i + 1)) (nI_add _ _) ?_
  refine va_sld hx hb hX hbl hbA hS (vp_in_nI (by omega) (by omega)) dL_law_360 ?_
  refine lv_aload_n hx hb dL_law_361 rfl (lv_at hl 0 rfl) ?_
  refine lv_iload_n hx hb dL_law_362 rfl (lv_at hl 3 rfl) ?_
  refine lv_iconst (v := (nI 2)) hx hb dL_law_363 (by decide) ?_
  refine lv_iadd hx hb dL_law_364 ?_
  refine fs_vi (y := nI (i + 2)) (nI_add _ _) ?_
  refine va_sld hx hb hX hbl hbA hS (vp_in_nI (by omega) (by omega)) dL_law_365 ?_
  refine lv_aload_n hx hb dL_law_366 rfl (lv_at hl 0 rfl) ?_
  refine lv_iload_n hx hb dL_law_367 rfl (lv_at hl 3 rfl) ?_
  refine lv_iconst (v := (nI 3)) hx hb dL_law_368 (by decide) ?_
  refine lv_iadd hx hb dL_law_369 ?_
  refine fs_vi (y := nI (i + 3)) (nI_add _ _) ?_
  refine va_sld hx hb hX hbl hbA hS (vp_in_nI (by omega) (by omega)) dL_law_370 ?_
  refine fs_i (va_runV (As := [.int (xs (nI (i + 1)).toNatClampNeg), .int (xs (nI (i + 2)).toNatClampNeg), .int (xs (nI (i + 3)).toNatClampNeg)]) (rest := []) E.1 (c_X7_guess l g 249 ct σ k hs u1 s1 u2 s2 t len (by omega) hO (xs (nI (i + 1)).toNatClampNeg) (xs (nI (i + 2)).toNatClampNeg) (xs (nI (i + 3)).toNatClampNeg)) (lk_RL_46 E.1.2.2.2.2 ⟨Nat.le_of_ble_eq_true rfl, Nat.le_of_ble_eq_true rfl⟩) (fpreV E hP hS fc7 h7 (by omega)) rfl rfl hl.1 rfl (lv_room (Nat.le_of_ble_eq_true rfl)) dL_law_371 ⟨(Nat.le_of_ble_eq_true rfl), (Nat.le_of_ble_eq_true rfl)⟩) hS (fun r_371 ct_1 H locs p_371 hP hS => ?_)
  have hR2 := RFAt.keep hR (fun j h1 => p_371.2.2 j (by omega))
  obtain ⟨f9, h9⟩ := RFAt.obj hR2
  refine lv_aload_n hx hb dL_law_374 rfl (lv_at hl 2 rfl) ?_
  refine lv_aload_n hx hb dL_law_375 rfl (lv_at hl 0 rfl) ?_
  refine lv_iload_n hx hb dL_law_376 rfl (lv_at hl 3 rfl) ?_
  refine lv_iconst (v := (nI 1)) hx hb dL_law_377 (by decide) ?_
  refine lv_iadd hx hb dL_law_378 ?_
  refine fs_vi (y := nI (i + 1)) (nI_add _ _) ?_
  refine va_sld hx hb hX hbl hbA hS (vp_in_nI (by omega) (by omega)) dL_law_379 ?_
  refine lv_aload_n hx hb dL_law_380 rfl (lv_at hl 0 rfl) ?_
  refine lv_iload_n hx hb dL_law_381 rfl (lv_at hl 3 rfl) ?_
  refine lv_iconst (v := (nI 2)) hx hb dL_law_382 (by decide) ?_
  refine lv_iadd hx hb dL_law_383 ?_
  refine fs_vi (y := nI (i + 2)) (nI_add _ _) ?_
  refine va_sld hx hb hX hbl hbA hS (vp_in_nI (by omega) (by omega)) dL_law_384 ?_
  refine lv_aload_n hx hb dL_law_385 rfl (lv_at hl 0 rfl) ?_
  refine lv_iload_n hx hb dL_law_386 rfl (lv_at hl 3 rfl) ?_
  refine lv_iconst (v := (nI 3)) hx hb dL_law_387 (by decide) ?_
  refine lv_iadd hx hb dL_law_388 ?_
  refine fs_vi (y := nI (i + 3)) (nI_add _ _) ?_
  refine va_sld hx hb hX hbl hbA hS (vp_in_nI (by omega) (by omega)) dL_law_389 ?_
  refine fs_i (va_runV (As := [.int (xs (nI (i + 1)).toNatClampNeg), .int (xs (nI (i + 2)).toNatClampNeg), .int (xs (nI (i + 3)).toNatClampNeg)]) (rest := [.int r_371]) E.1 (c_X8_guess l g 249 ct_1 σ k hs u1 s1 u2 s2 t len (by omega) hG hR2 (xs (nI (i + 1)).toNatClampNeg) (xs (nI (i + 2)).toNatClampNeg) (xs (nI (i + 3)).toNatClampNeg)) (lk_RL_50 E.1.2.2.2.2 ⟨Nat.le_of_ble_eq_true rfl, Nat.le_of_ble_eq_true rfl⟩) (fpreV E hP hS fc8 h9 (by omega)) rfl rfl hl.1 rfl (lv_room (Nat.le_of_ble_eq_true rfl)) dL_law_390 ⟨(Nat.le_of_ble_eq_true rfl), (Nat.le_of_ble_eq_true rfl)⟩) hS (fun r_390 ct_2 H locs p_390 hP hS => ?_)
  have hO2 := OGAt.keep p_371.2.1 (fun j h1 => p_390.2.2 j (by omega))
  have hJ2 : lw_J g ct_2 := ⟨_, _, _, _, _, _, _, _, _, hO2, p_390.2.1⟩
  refine lv_icmp_eq (tgt := 839) hx hb dL_law_393 (by decide) (fun c_393 => ?_) (fun c_393 => ?_)
  · exact K _ _ _ _ hJ2 hP hS hl
  · exact absurd (p_371.1.trans p_390.1.symm) c_393
set_option maxRecDepth 100000 in
set_option maxHeartbeats 4000000 in
theorem lw_c8 (E : fE p m c cL_law 4 s #[.ref b] RL g) (hX : va_X b L xs s s.heap) (hbl : b < s.heap.size) (hbA : ¬ fB g b) (hL : L ≤ 2560) (hJ : lw_J g ct) (hP : fP g 249 ct H) (hS : va_S (fB g) s.heap H locs) (hi : i + 5 ≤ L) (hl : lv_has ls 4 [(0, .ref b), (1, .ref (fa g 0)), (2, .ref (fa g 239)), (3, .int (nI i))]) (K : ∀ (ct1 : Nat → va_E) (H1 : Heap) (locs1 : List Loc) (ls1 : Array Slot), lw_J g ct1 → fP g 249 ct1 H1 → va_S (fB g) s.heap H1 locs1 → lv_has ls1 4 [(0, .ref b), (1, .ref (fa g 0)), (2, .ref (fa g 239)), (3, .int (nI i))] → W p l e room_1 s m #[.ref b] below meth c H1 locs1 249 2736 Q (F0 m 839 ls1 [])) : W p l e room_1 s m #[.ref b] below meth c H locs 249 2736 Q (F0 m 398 ls []) := by
  obtain ⟨σ, k, hs, u1, s1, u2, s2, t, len, hO, hR⟩ := hJ
  have hx := E.1.1
  have hb := E.1.2.1
  have hG := hO.good
  have h128 := hO.ch
  obtain ⟨f7, h7⟩ := hO.obj
  obtain ⟨f8, h8⟩ := hR.obj
  refine lv_aload_n hx hb dL_law_398 rfl (lv_at hl 1 rfl) ?_
  refine fs_i (va_runV (As := []) (rest := []) E.1 (c_X7_endAct l g 249 ct σ k hs u1 s1 u2 s2 t len (by omega) hO ) (lk_RL_51 E.1.2.2.2.2 ⟨Nat.le_of_ble_eq_true rfl, Nat.le_of_ble_eq_true rfl⟩) (fpreV E hP hS fc7 h7 (by omega)) rfl rfl hl.1 rfl (lv_room (Nat.le_of_ble_eq_true rfl)) dL_law_399 ⟨(Nat.le_of_ble_eq_true rfl), (Nat.le_of_ble_eq_true rfl)⟩) hS (fun r_399 ct_1 H locs p_399 hP hS => ?_)
  have hR2 := RFAt.keep hR (fun j h1 => p_399.2.2 j (by omega))
  obtain ⟨f9, h9⟩ := RFAt.obj hR2
  refine lv_aload_n hx hb dL_law_402 rfl (lv_at hl 2 rfl) ?_
  refine fs_i (va_runV (As := []) (rest := [.int r_399]) E.1 (c_X8_endAct l g 249 ct_1 σ k hs u1 s1 u2 s2 t len (by omega) hG hR2 ) (lk_RL_54 E.1.2.2.2.2 ⟨Nat.le_of_ble_eq_true rfl, Nat.le_of_ble_eq_true rfl⟩) (fpreV E hP hS fc8 h9 (by omega)) rfl rfl hl.1 rfl (lv_room (Nat.le_of_ble_eq_true rfl)) dL_law_403 ⟨(Nat.le_of_ble_eq_true rfl), (Nat.le_of_ble_eq_true rfl)⟩) hS (fun r_403 ct_2 H locs p_403 hP hS => ?_)
  have hO2 := OGAt.keep p_399.2.1 (fun j h1 => p_403.2.2 j (by omega))
  have hJ2 : lw_J g ct_2 := ⟨_, _, _, _, _, _, _, _, _, hO2, p_403.2.1⟩
  refine lv_icmp_eq (tgt := 839) hx hb dL_law_406 (by decide) (fun c_406 => ?_) (fun c_406 => ?_)
  · exact K _ _ _ _ hJ2 hP hS hl
  · exact absurd (p_399.1.trans p_403.1.symm) c_406
set_option maxRecDepth 100000 in
set_option maxHeartbeats 4000000 in
theorem lw_c9 (E : fE p m c cL_law 4 s #[.ref b] RL g) (hX : va_X b L xs s s.heap) (hbl : b < s.heap.size) (hbA : ¬ fB g b) (hL : L ≤ 2560) (hJ : lw_J g ct) (hP : fP g 249 ct H) (hS : va_S (fB g) s.heap H locs) (hi : i + 5 ≤ L) (hl : lv_has ls 4 [(0, .ref b), (1, .ref (fa g 0)), (2, .ref (fa g 239)), (3, .int (nI i))]) (K : ∀ (ct1 : Nat → va_E) (H1 : Heap) (locs1 : List Loc) (ls1 : Array Slot), lw_J g ct1 → fP g 249 ct1 H1 → va_S (fB g) s.heap H1 locs1 → lv_has ls1 4 [(0, .ref b), (1, .ref (fa g 0)), (2, .ref (fa g 239)), (3, .int (nI i))] → W p l e room_1 s m #[.ref b] below meth c H1 locs1 249 2736 Q (F0 m 839 ls1 [])) : W p l e room_1 s m #[.ref b] below meth c H locs 249 2736 Q (F0 m 411 ls []) := by
  obtain ⟨σ, k, hs, u1, s1, u2, s2, t, len, hO, hR⟩ := hJ
  have hx := E.1.1
  have hb := E.1.2.1
  have hG := hO.good
  have h128 := hO.ch
  obtain ⟨f7, h7⟩ := hO.obj
  obtain ⟨f8, h8⟩ := hR.obj
  refine lv_aload_n hx hb dL_law_411 rfl (lv_at hl 1 rfl) ?_
  refine lv_aload_n hx hb dL_law_412 rfl (lv_at hl 0 rfl) ?_
  refine lv_iload_n hx hb dL_law_413 rfl (lv_at hl 3 rfl) ?_
  refine lv_iconst (v := (nI 1)) hx hb dL_law_414 (by decide) ?_
  refine lv_iadd hx hb dL_law_415 ?_
  refine fs_vi (y := nI (i + 1)) (nI_add _ _) ?_
  refine va_sld hx hb hX hbl hbA hS (vp_in_nI (by omega) (by omega)) dL_law_416 ?_
  refine lv_aload_n hx hb dL_law_417 rfl (lv_at hl 0 rfl) ?_
  refine lv_iload_n hx hb dL_law_418 rfl (lv_at hl 3 rfl) ?_
  refine lv_iconst (v := (nI 2)) hx hb dL_law_419 (by decide) ?_
  refine lv_iadd hx hb dL_law_420 ?_
  refine fs_vi (y := nI (i + 2)) (nI_add _ _) ?_
  refine va_sld hx hb hX hbl hbA hS (vp_in_nI (by omega) (by omega)) dL_law_421 ?_
  refine fs_pi (va_runV (As := [.int (xs (nI (i + 1)).toNatClampNeg), .int (xs (nI (i + 2)).toNatClampNeg)]) (rest := []) E.1 (c_X7_person l g 249 ct σ k hs u1 s1 u2 s2 t len (by omega) hO (xs (nI (i + 1)).toNatClampNeg) (xs (nI (i + 2)).toNatClampNeg)) (lk_RL_55 E.1.2.2.2.2 ⟨Nat.le_of_ble_eq_true rfl, Nat.le_of_ble_eq_true rfl⟩) (fpreV E hP hS fc7 h7 (by omega)) rfl rfl hl.1 rfl (lv_room (Nat.le_of_ble_eq_true rfl)) dL_law_422 ⟨(Nat.le_of_ble_eq_true rfl), (Nat.le_of_ble_eq_true rfl)⟩) hS (fun r_422 locs p_422 hS => ?_)
  refine lv_aload_n hx hb dL_law_425 rfl (lv_at hl 2 rfl) ?_
  refine lv_aload_n hx hb dL_law_426 rfl (lv_at hl 0 rfl) ?_
  refine lv_iload_n hx hb dL_law_427 rfl (lv_at hl 3 rfl) ?_
  refine lv_iconst (v := (nI 1)) hx hb dL_law_428 (by decide) ?_
  refine lv_iadd hx hb dL_law_429 ?_
  refine fs_vi (y := nI (i + 1)) (nI_add _ _) ?_
  refine va_sld hx hb hX hbl hbA hS (vp_in_nI (by omega) (by omega)) dL_law_430 ?_
  refine lv_aload_n hx hb dL_law_431 rfl (lv_at hl 0 rfl) ?_
  refine lv_iload_n hx hb dL_law_432 rfl (lv_at hl 3 rfl) ?_
  refine lv_iconst (v := (nI 2)) hx hb dL_law_433 (by decide) ?_
  refine lv_iadd hx hb dL_law_434 ?_
  refine fs_vi (y := nI (i + 2)) (nI_add _ _) ?_
  refine va_sld hx hb hX hbl hbA hS (vp_in_nI (by omega) (by omega)) dL_law_435 ?_
  refine fs_i (va_runV (As := [.int (xs (nI (i + 1)).toNatClampNeg), .int (xs (nI (i + 2)).toNatClampNeg)]) (rest := [.int r_422]) E.1 (c_X8_person l g 249 ct σ k hs u1 s1 u2 s2 t len (by omega) hG hR (xs (nI (i + 1)).toNatClampNeg) (xs (nI (i + 2)).toNatClampNeg)) (lk_RL_58 E.1.2.2.2.2 ⟨Nat.le_of_ble_eq_true rfl, Nat.le_of_ble_eq_true rfl⟩) (fpreV E hP hS fc8 h8 (by omega)) rfl rfl hl.1 rfl (lv_room (Nat.le_of_ble_eq_true rfl)) dL_law_436 ⟨(Nat.le_of_ble_eq_true rfl), (Nat.le_of_ble_eq_true rfl)⟩) hS (fun r_436 ct_1 H locs p_436 hP hS => ?_)
  have hO2 := OGAt.keep hO (fun j h1 => p_436.2.2 j (by omega))
  have hJ2 : lw_J g ct_1 := ⟨_, _, _, _, _, _, _, _, _, hO2, p_436.2.1⟩
  refine lv_icmp_eq (tgt := 839) hx hb dL_law_439 (by decide) (fun c_439 => ?_) (fun c_439 => ?_)
  · exact K _ _ _ _ hJ2 hP hS hl
  · exact absurd (p_422.trans p_436.1.symm) c_439
set_option maxRecDepth 100000 in
set_option maxHeartbeats 4000000 in
theorem lw_c10 (E : fE p m c cL_law 4 s #[.ref b] RL g) (hX : va_X b L xs s s.heap) (hbl : b < s.heap.size) (hbA : ¬ fB g b) (hL : L ≤ 2560) (hJ : lw_J g ct) (hP : fP g 249 ct H) (hS : va_S (fB g) s.heap H locs) (hi : i + 5 ≤ L) (hl : lv_has ls 4 [(0, .ref b), (1, .ref (fa g 0)), (2, .ref (fa g 239)), (3, .int (nI i))]) (K : ∀ (ct1 : Nat → va_E) (H1 : Heap) (locs1 : List Loc) (ls1 : Array Slot), lw_J g ct1 → fP g 249 ct1 H1 → va_S (fB g) s.heap H1 locs1 → lv_has ls1 4 [(0, .ref b), (1, .ref (fa g 0)), (2, .ref (fa g 239)), (3, .int (nI i))] → W p l e room_1 s m #[.ref b] below meth c H1 locs1 249 2736 Q (F0 m 839 ls1 [])) : W p l e room_1 s m #[.ref b] below meth c H locs 249 2736 Q (F0 m 444 ls []) := by
  obtain ⟨σ, k, hs, u1, s1, u2, s2, t, len, hO, hR⟩ := hJ
  have hx := E.1.1
  have hb := E.1.2.1
  have hG := hO.good
  have h128 := hO.ch
  obtain ⟨f7, h7⟩ := hO.obj
  obtain ⟨f8, h8⟩ := hR.obj
  refine lv_aload_n hx hb dL_law_444 rfl (lv_at hl 1 rfl) ?_
  refine lv_aload_n hx hb dL_law_445 rfl (lv_at hl 0 rfl) ?_
  refine lv_iload_n hx hb dL_law_446 rfl (lv_at hl 3 rfl) ?_
  refine lv_iconst (v := (nI 1)) hx hb dL_law_447 (by decide) ?_
  refine lv_iadd hx hb dL_law_448 ?_
  refine fs_vi (y := nI (i + 1)) (nI_add _ _) ?_
  refine va_sld hx hb hX hbl hbA hS (vp_in_nI (by omega) (by omega)) dL_law_449 ?_
  refine lv_aload_n hx hb dL_law_450 rfl (lv_at hl 0 rfl) ?_
  refine lv_iload_n hx hb dL_law_451 rfl (lv_at hl 3 rfl) ?_
  refine lv_iconst (v := (nI 2)) hx hb dL_law_452 (by decide) ?_
  refine lv_iadd hx hb dL_law_453 ?_
  refine fs_vi (y := nI (i + 2)) (nI_add _ _) ?_
  refine va_sld hx hb hX hbl hbA hS (vp_in_nI (by omega) (by omega)) dL_law_454 ?_
  refine fs_i (va_runV (As := [.int (xs (nI (i + 1)).toNatClampNeg), .int (xs (nI (i + 2)).toNatClampNeg)]) (rest := []) E.1 (c_X7_rumour l g 249 ct σ k hs u1 s1 u2 s2 t len (by omega) hO (xs (nI (i + 1)).toNatClampNeg) (xs (nI (i + 2)).toNatClampNeg)) (lk_RL_59 E.1.2.2.2.2 ⟨Nat.le_of_ble_eq_true rfl, Nat.le_of_ble_eq_true rfl⟩) (fpreV E hP hS fc7 h7 (by omega)) rfl rfl hl.1 rfl (lv_room (Nat.le_of_ble_eq_true rfl)) dL_law_455 ⟨(Nat.le_of_ble_eq_true rfl), (Nat.le_of_ble_eq_true rfl)⟩) hS (fun r_455 ct_1 H locs p_455 hP hS => ?_)
  have hR2 := RFAt.keep hR (fun j h1 => p_455.2.2 j (by omega))
  obtain ⟨f9, h9⟩ := RFAt.obj hR2
  refine lv_aload_n hx hb dL_law_458 rfl (lv_at hl 2 rfl) ?_
  refine lv_aload_n hx hb dL_law_459 rfl (lv_at hl 0 rfl) ?_
  refine lv_iload_n hx hb dL_law_460 rfl (lv_at hl 3 rfl) ?_
  refine lv_iconst (v := (nI 1)) hx hb dL_law_461 (by decide) ?_
  refine lv_iadd hx hb dL_law_462 ?_
  refine fs_vi (y := nI (i + 1)) (nI_add _ _) ?_
  refine va_sld hx hb hX hbl hbA hS (vp_in_nI (by omega) (by omega)) dL_law_463 ?_
  refine lv_aload_n hx hb dL_law_464 rfl (lv_at hl 0 rfl) ?_
  refine lv_iload_n hx hb dL_law_465 rfl (lv_at hl 3 rfl) ?_
  refine lv_iconst (v := (nI 2)) hx hb dL_law_466 (by decide) ?_
  refine lv_iadd hx hb dL_law_467 ?_
  refine fs_vi (y := nI (i + 2)) (nI_add _ _) ?_
  refine va_sld hx hb hX hbl hbA hS (vp_in_nI (by omega) (by omega)) dL_law_468 ?_
  refine fs_i (va_runV (As := [.int (xs (nI (i + 1)).toNatClampNeg), .int (xs (nI (i + 2)).toNatClampNeg)]) (rest := [.int r_455]) E.1 (c_X8_rumour l g 249 ct_1 σ k hs u1 s1 u2 s2 t len (by omega) hG hR2 (xs (nI (i + 1)).toNatClampNeg) (xs (nI (i + 2)).toNatClampNeg)) (lk_RL_62 E.1.2.2.2.2 ⟨Nat.le_of_ble_eq_true rfl, Nat.le_of_ble_eq_true rfl⟩) (fpreV E hP hS fc8 h9 (by omega)) rfl rfl hl.1 rfl (lv_room (Nat.le_of_ble_eq_true rfl)) dL_law_469 ⟨(Nat.le_of_ble_eq_true rfl), (Nat.le_of_ble_eq_true rfl)⟩) hS (fun r_469 ct_2 H locs p_469 hP hS => ?_)
  have hO2 := OGAt.keep p_455.2.1 (fun j h1 => p_469.2.2 j (by omega))
  have hJ2 : lw_J g ct_2 := ⟨_, _, _, _, _, _, _, _, _, hO2, p_469.2.1⟩
  refine lv_icmp_eq (tgt := 839) hx hb dL_law_472 (by decide) (fun c_472 => ?_) (fun c_472 => ?_)
  · exact K _ _ _ _ hJ2 hP hS hl
  · exact absurd (p_455.1.trans p_469.1.symm) c_472
set_option maxRecDepth 100000 in
set_option maxHeartbeats 4000000 in
theorem lw_c11 (E : fE p m c cL_law 4 s #[.ref b] RL g) (hX : va_X b L xs s s.heap) (hbl : b < s.heap.size) (hbA : ¬ fB g b) (hL : L ≤ 2560) (hJ : lw_J g ct) (hP : fP g 249 ct H) (hS : va_S (fB g) s.heap H locs) (hi : i + 5 ≤ L) (hl : lv_has ls 4 [(0, .ref b), (1, .ref (fa g 0)), (2, .ref (fa g 239)), (3, .int (nI i))]) (K : ∀ (ct1 : Nat → va_E) (H1 : Heap) (locs1 : List Loc) (ls1 : Array Slot), lw_J g ct1 → fP g 249 ct1 H1 → va_S (fB g) s.heap H1 locs1 → lv_has ls1 4 [(0, .ref b), (1, .ref (fa g 0)), (2, .ref (fa g 239)), (3, .int (nI i))] → W p l e room_1 s m #[.ref b] below meth c H1 locs1 249 2736 Q (F0 m 839 ls1 [])) : W p l e room_1 s m #[.ref b] below meth c H locs 249 2736 Q (F0 m 477 ls []) := by
  obtain ⟨σ, k, hs, u1, s1, u2, s2, t, len, hO, hR⟩ := hJ
  have hx := E.1.1
  have hb := E.1.2.1
  have hG := hO.good
  have h128 := hO.ch
  obtain ⟨f7, h7⟩ := hO.obj
  obtain ⟨f8, h8⟩ := hR.obj
  refine lv_aload_n hx hb dL_law_477 rfl (lv_at hl 1 rfl) ?_
  refine lv_aload_n hx hb dL_law_478 rfl (lv_at hl 0 rfl) ?_
  refine lv_iload_n hx hb dL_law_479 rfl (lv_at hl 3 rfl) ?_
  refine lv_iconst (v := (nI 1)) hx hb dL_law_480 (by decide) ?_
  refine lv_iadd hx hb dL_law_481 ?_
  refine fs_vi (y := nI (i + 1)) (nI_add _ _) ?_
  refine va_sld hx hb hX hbl hbA hS (vp_in_nI (by omega) (by omega)) dL_law_482 ?_
  refine fs_i (va_runV (As := [.int (xs (nI (i + 1)).toNatClampNeg)]) (rest := []) E.1 (c_X7_count l g 249 ct σ k hs u1 s1 u2 s2 t len (by omega) hO (xs (nI (i + 1)).toNatClampNeg)) (lk_RL_63 E.1.2.2.2.2 ⟨Nat.le_of_ble_eq_true rfl, Nat.le_of_ble_eq_true rfl⟩) (fpreV E hP hS fc7 h7 (by omega)) rfl rfl hl.1 rfl (lv_room (Nat.le_of_ble_eq_true rfl)) dL_law_483 ⟨(Nat.le_of_ble_eq_true rfl), (Nat.le_of_ble_eq_true rfl)⟩) hS (fun r_483 ct_1 H locs p_483 hP hS => ?_)
  have hR2 := RFAt.keep hR (fun j h1 => p_483.2.2 j (by omega))
  obtain ⟨f9, h9⟩ := RFAt.obj hR2
  refine lv_aload_n hx hb dL_law_486 rfl (lv_at hl 2 rfl) ?_
  refine lv_aload_n hx hb dL_law_487 rfl (lv_at hl 0 rfl) ?_
  refine lv_iload_n hx hb dL_law_488 rfl (lv_at hl 3 rfl) ?_
  refine lv_iconst (v := (nI 1)) hx hb dL_law_489 (by decide) ?_
  refine lv_iadd hx hb dL_law_490 ?_
  refine fs_vi (y := nI (i + 1)) (nI_add _ _) ?_
  refine va_sld hx hb hX hbl hbA hS (vp_in_nI (by omega) (by omega)) dL_law_491 ?_
  refine fs_i (va_runV (As := [.int (xs (nI (i + 1)).toNatClampNeg)]) (rest := [.int r_483]) E.1 (c_X8_count l g 249 ct_1 σ k hs u1 s1 u2 s2 t len (by omega) hG hR2 (xs (nI (i + 1)).toNatClampNeg)) (lk_RL_66 E.1.2.2.2.2 ⟨Nat.le_of_ble_eq_true rfl, Nat.le_of_ble_eq_true rfl⟩) (fpreV E hP hS fc8 h9 (by omega)) rfl rfl hl.1 rfl (lv_room (Nat.le_of_ble_eq_true rfl)) dL_law_492 ⟨(Nat.le_of_ble_eq_true rfl), (Nat.le_of_ble_eq_true rfl)⟩) hS (fun r_492 ct_2 H locs p_492 hP hS => ?_)
  have hO2 := OGAt.keep p_483.2.1 (fun j h1 => p_492.2.2 j (by omega))
  have hJ2 : lw_J g ct_2 := ⟨_, _, _, _, _, _, _, _, _, hO2, p_492.2.1⟩
  refine lv_icmp_eq (tgt := 839) hx hb dL_law_495 (by decide) (fun c_495 => ?_) (fun c_495 => ?_)
  · exact K _ _ _ _ hJ2 hP hS hl
  · exact absurd (p_483.1.trans p_492.1.symm) c_495
set_option maxRecDepth 100000 in
set_option maxHeartbeats 4000000 in
theorem lw_c12 (E : fE p m c cL_law 4 s #[.ref b] RL g) (hX : va_X b L xs s s.heap) (hbl : b < s.heap.size) (hbA : ¬ fB g b) (hL : L ≤ 2560) (hJ : lw_J g ct) (hP : fP g 249 ct H) (hS : va_S (fB g) s.heap H locs) (hi : i + 5 ≤ L) (hl : lv_has ls 4 [(0, .ref b), (1, .ref (fa g 0)), (2, .ref (fa g 239)), (3, .int (nI i))]) (K : ∀ (ct1 : Nat → va_E) (H1 : Heap) (locs1 : List Loc) (ls1 : Array Slot), lw_J g ct1 → fP g 249 ct1 H1 → va_S (fB g) s.heap H1 locs1 → lv_has ls1 4 [(0, .ref b), (1, .ref (fa g 0)), (2, .ref (fa g 239)), (3, .int (nI i))] → W p l e room_1 s m #[.ref b] below meth c H1 locs1 249 2736 Q (F0 m 839 ls1 [])) : W p l e room_1 s m #[.ref b] below meth c H locs 249 2736 Q (F0 m 500 ls []) := by
  obtain ⟨σ, k, hs, u1, s1, u2, s2, t, len, hO, hR⟩ := hJ
  have hx := E.1.1
  have hb := E.1.2.1
  have hG := hO.good
  have h128 := hO.ch
  obtain ⟨f7, h7⟩ := hO.obj
  obtain ⟨f8, h8⟩ := hR.obj
  refine lv_aload_n hx hb dL_law_500 rfl (lv_at hl 1 rfl) ?_
  refine lv_aload_n hx hb dL_law_501 rfl (lv_at hl 0 rfl) ?_
  refine lv_iload_n hx hb dL_law_502 rfl (lv_at hl 3 rfl) ?_
  refine lv_iconst (v := (nI 1)) hx hb dL_law_503 (by decide) ?_
  refine lv_iadd hx hb dL_law_504 ?_
  refine fs_vi (y := nI (i + 1)) (nI_add _ _) ?_
  refine va_sld hx hb hX hbl hbA hS (vp_in_nI (by omega) (by omega)) dL_law_505 ?_
  refine lv_aload_n hx hb dL_law_506 rfl (lv_at hl 0 rfl) ?_
  refine lv_iload_n hx hb dL_law_507 rfl (lv_at hl 3 rfl) ?_
  refine lv_iconst (v := (nI 2)) hx hb dL_law_508 (by decide) ?_
  refine lv_iadd hx hb dL_law_509 ?_
  refine fs_vi (y := nI (i + 2)) (nI_add _ _) ?_
  refine va_sld hx hb hX hbl hbA hS (vp_in_nI (by omega) (by omega)) dL_law_510 ?_
  refine fs_i (va_runV (As := [.int (xs (nI (i + 1)).toNatClampNeg), .int (xs (nI (i + 2)).toNatClampNeg)]) (rest := []) E.1 (c_X7_possible l g 249 ct σ k hs u1 s1 u2 s2 t len (by omega) hO (xs (nI (i + 1)).toNatClampNeg) (xs (nI (i + 2)).toNatClampNeg)) (lk_RL_67 E.1.2.2.2.2 ⟨Nat.le_of_ble_eq_true rfl, Nat.le_of_ble_eq_true rfl⟩) (fpreV E hP hS fc7 h7 (by omega)) rfl rfl hl.1 rfl (lv_room (Nat.le_of_ble_eq_true rfl)) dL_law_511 ⟨(Nat.le_of_ble_eq_true rfl), (Nat.le_of_ble_eq_true rfl)⟩) hS (fun r_511 ct_1 H locs p_511 hP hS => ?_)
  have hR2 := RFAt.keep hR (fun j h1 => p_511.2.2 j (by omega))
  obtain ⟨f9, h9⟩ := RFAt.obj hR2
  refine lv_aload_n hx hb dL_law_514 rfl (lv_at hl 2 rfl) ?_
  refine lv_aload_n hx hb dL_law_515 rfl (lv_at hl 0 rfl) ?_
  refine lv_iload_n hx hb dL_law_516 rfl (lv_at hl 3 rfl) ?_
  refine lv_iconst (v := (nI 1)) hx hb dL_law_517 (by decide) ?_
  refine lv_iadd hx hb dL_law_518 ?_
  refine fs_vi (y := nI (i + 1)) (nI_add _ _) ?_
  refine va_sld hx hb hX hbl hbA hS (vp_in_nI (by omega) (by omega)) dL_law_519 ?_
  refine lv_aload_n hx hb dL_law_520 rfl (lv_at hl 0 rfl) ?_
  refine lv_iload_n hx hb dL_law_521 rfl (lv_at hl 3 rfl) ?_
  refine lv_iconst (v := (nI 2)) hx hb dL_law_522 (by decide) ?_
  refine lv_iadd hx hb dL_law_523 ?_
  refine fs_vi (y := nI (i + 2)) (nI_add _ _) ?_
  refine va_sld hx hb hX hbl hbA hS (vp_in_nI (by omega) (by omega)) dL_law_524 ?_
  refine fs_i (va_runV (As := [.int (xs (nI (i + 1)).toNatClampNeg), .int (xs (nI (i + 2)).toNatClampNeg)]) (rest := [.int r_511]) E.1 (c_X8_possible l g 249 ct_1 σ k hs u1 s1 u2 s2 t len (by omega) hG hR2 (xs (nI (i + 1)).toNatClampNeg) (xs (nI (i + 2)).toNatClampNeg)) (lk_RL_70 E.1.2.2.2.2 ⟨Nat.le_of_ble_eq_true rfl, Nat.le_of_ble_eq_true rfl⟩) (fpreV E hP hS fc8 h9 (by omega)) rfl rfl hl.1 rfl (lv_room (Nat.le_of_ble_eq_true rfl)) dL_law_525 ⟨(Nat.le_of_ble_eq_true rfl), (Nat.le_of_ble_eq_true rfl)⟩) hS (fun r_525 ct_2 H locs p_525 hP hS => ?_)
  have hO2 := OGAt.keep p_511.2.1 (fun j h1 => p_525.2.2 j (by omega))
  have hJ2 : lw_J g ct_2 := ⟨_, _, _, _, _, _, _, _, _, hO2, p_525.2.1⟩
  refine lv_icmp_eq (tgt := 839) hx hb dL_law_528 (by decide) (fun c_528 => ?_) (fun c_528 => ?_)
  · exact K _ _ _ _ hJ2 hP hS hl
  · exact absurd (p_511.1.trans p_525.1.symm) c_528
set_option maxRecDepth 100000 in
set_option maxHeartbeats 4000000 in
theorem lw_c13 (E : fE p m c cL_law 4 s #[.ref b] RL g) (hX : va_X b L xs s s.heap) (hbl : b < s.heap.size) (hbA : ¬ fB g b) (hL : L ≤ 2560) (hJ : lw_J g ct) (hP : fP g 249 ct H) (hS : va_S (fB g) s.heap H locs) (hi : i + 5 ≤ L) (hl : lv_has ls 4 [(0, .ref b), (1, .ref (fa g 0)), (2, .ref (fa g 239)), (3, .int (nI i))]) (K : ∀ (ct1 : Nat → va_E) (H1 : Heap) (locs1 : List Loc) (ls1 : Array Slot), lw_J g ct1 → fP g 249 ct1 H1 → va_S (fB g) s.heap H1 locs1 → lv_has ls1 4 [(0, .ref b), (1, .ref (fa g 0)), (2, .ref (fa g 239)), (3, .int (nI i))] → W p l e room_1 s m #[.ref b] below meth c H1 locs1 249 2736 Q (F0 m 839 ls1 [])) : W p l e room_1 s m #[.ref b] below meth c H locs 249 2736 Q (F0 m 533 ls []) := by
  obtain ⟨σ, k, hs, u1, s1, u2, s2, t, len, hO, hR⟩ := hJ
  have hx := E.1.1
  have hb := E.1.2.1
  have hG := hO.good
  have h128 := hO.ch
  obtain ⟨f7, h7⟩ := hO.obj
  obtain ⟨f8, h8⟩ := hR.obj
  refine lv_aload_n hx hb dL_law_533 rfl (lv_at hl 1 rfl) ?_
  refine lv_aload_n hx hb dL_law_534 rfl (lv_at hl 0 rfl) ?_
  refine lv_iload_n hx hb dL_law_535 rfl (lv_at hl 3 rfl) ?_
  refine lv_iconst (v := (nI 1)) hx hb dL_law_536 (by decide) ?_
  refine lv_iadd hx hb dL_law_537 ?_
  refine fs_vi (y := nI (i + 1)) (nI_add _ _) ?_
  refine va_sld hx hb hX hbl hbA hS (vp_in_nI (by omega) (by omega)) dL_law_538 ?_
  refine fs_i (va_runV (As := [.int (xs (nI (i + 1)).toNatClampNeg)]) (rest := []) E.1 (c_X7_certain l g 249 ct σ k hs u1 s1 u2 s2 t len (by omega) hO (xs (nI (i + 1)).toNatClampNeg)) (lk_RL_71 E.1.2.2.2.2 ⟨Nat.le_of_ble_eq_true rfl, Nat.le_of_ble_eq_true rfl⟩) (fpreV E hP hS fc7 h7 (by omega)) rfl rfl hl.1 rfl (lv_room (Nat.le_of_ble_eq_true rfl)) dL_law_539 ⟨(Nat.le_of_ble_eq_true rfl), (Nat.le_of_ble_eq_true rfl)⟩) hS (fun r_539 ct_1 H locs p_539 hP hS => ?_)
  have hR2 := RFAt.keep hR (fun j h1 => p_539.2.2 j (by omega))
  obtain ⟨f9, h9⟩ := RFAt.obj hR2
  refine lv_aload_n hx hb dL_law_542 rfl (lv_at hl 2 rfl) ?_
  refine lv_aload_n hx hb dL_law_543 rfl (lv_at hl 0 rfl) ?_
  refine lv_iload_n hx hb dL_law_544 rfl (lv_at hl 3 rfl) ?_
  refine lv_iconst (v := (nI 1)) hx hb dL_law_545 (by decide) ?_
  refine lv_iadd hx hb dL_law_546 ?_
  refine fs_vi (y := nI (i + 1)) (nI_add _ _) ?_
  refine va_sld hx hb hX hbl hbA hS (vp_in_nI (by omega) (by omega)) dL_law_547 ?_
  refine fs_i (va_runV (As := [.int (xs (nI (i + 1)).toNatClampNeg)]) (rest := [.int r_539]) E.1 (c_X8_certain l g 249 ct_1 σ k hs u1 s1 u2 s2 t len (by omega) hG hR2 (xs (nI (i + 1)).toNatClampNeg)) (lk_RL_74 E.1.2.2.2.2 ⟨Nat.le_of_ble_eq_true rfl, Nat.le_of_ble_eq_true rfl⟩) (fpreV E hP hS fc8 h9 (by omega)) rfl rfl hl.1 rfl (lv_room (Nat.le_of_ble_eq_true rfl)) dL_law_548 ⟨(Nat.le_of_ble_eq_true rfl), (Nat.le_of_ble_eq_true rfl)⟩) hS (fun r_548 ct_2 H locs p_548 hP hS => ?_)
  have hO2 := OGAt.keep p_539.2.1 (fun j h1 => p_548.2.2 j (by omega))
  have hJ2 : lw_J g ct_2 := ⟨_, _, _, _, _, _, _, _, _, hO2, p_548.2.1⟩
  refine lv_icmp_eq (tgt := 839) hx hb dL_law_551 (by decide) (fun c_551 => ?_) (fun c_551 => ?_)
  · exact K _ _ _ _ hJ2 hP hS hl
  · exact absurd (p_539.1.trans p_548.1.symm) c_551
set_option maxRecDepth 100000 in
set_option maxHeartbeats 4000000 in
theorem lw_c14 (E : fE p m c cL_law 4 s #[.ref b] RL g) (hX : va_X b L xs s s.heap) (hbl : b < s.heap.size) (hbA : ¬ fB g b) (hL : L ≤ 2560) (hJ : lw_J g ct) (hP : fP g 249 ct H) (hS : va_S (fB g) s.heap H locs) (hi : i + 5 ≤ L) (hl : lv_has ls 4 [(0, .ref b), (1, .ref (fa g 0)), (2, .ref (fa g 239)), (3, .int (nI i))]) (K : ∀ (ct1 : Nat → va_E) (H1 : Heap) (locs1 : List Loc) (ls1 : Array Slot), lw_J g ct1 → fP g 249 ct1 H1 → va_S (fB g) s.heap H1 locs1 → lv_has ls1 4 [(0, .ref b), (1, .ref (fa g 0)), (2, .ref (fa g 239)), (3, .int (nI i))] → W p l e room_1 s m #[.ref b] below meth c H1 locs1 249 2736 Q (F0 m 839 ls1 [])) : W p l e room_1 s m #[.ref b] below meth c H locs 249 2736 Q (F0 m 556 ls []) := by
  obtain ⟨σ, k, hs, u1, s1, u2, s2, t, len, hO, hR⟩ := hJ
  have hx := E.1.1
  have hb := E.1.2.1
  have hG := hO.good
  have h128 := hO.ch
  obtain ⟨f7, h7⟩ := hO.obj
  obtain ⟨f8, h8⟩ := hR.obj
  refine lv_aload_n hx hb dL_law_556 rfl (lv_at hl 1 rfl) ?_
  refine lv_aload_n hx hb dL_law_557 rfl (lv_at hl 0 rfl) ?_
  refine lv_iload_n hx hb dL_law_558 rfl (lv_at hl 3 rfl) ?_
  refine lv_iconst (v := (nI 1)) hx hb dL_law_559 (by decide) ?_
  refine lv_iadd hx hb dL_law_560 ?_
  refine fs_vi (y := nI (i + 1)) (nI_add _ _) ?_
  refine va_sld hx hb hX hbl hbA hS (vp_in_nI (by omega) (by omega)) dL_law_561 ?_
  refine lv_aload_n hx hb dL_law_562 rfl (lv_at hl 0 rfl) ?_
  refine lv_iload_n hx hb dL_law_563 rfl (lv_at hl 3 rfl) ?_
  refine lv_iconst (v := (nI 2)) hx hb dL_law_564 (by decide) ?_
  refine lv_iadd hx hb dL_law_565 ?_
  refine fs_vi (y := nI (i + 2)) (nI_add _ _) ?_
  refine va_sld hx hb hX hbl hbA hS (vp_in_nI (by omega) (by omega)) dL_law_566 ?_
  refine fs_i (va_runV (As := [.int (xs (nI (i + 1)).toNatClampNeg), .int (xs (nI (i + 2)).toNatClampNeg)]) (rest := []) E.1 (c_X7_world l g 249 ct σ k hs u1 s1 u2 s2 t len (by omega) hO (xs (nI (i + 1)).toNatClampNeg) (xs (nI (i + 2)).toNatClampNeg)) (lk_RL_75 E.1.2.2.2.2 ⟨Nat.le_of_ble_eq_true rfl, Nat.le_of_ble_eq_true rfl⟩) (fpreV E hP hS fc7 h7 (by omega)) rfl rfl hl.1 rfl (lv_room (Nat.le_of_ble_eq_true rfl)) dL_law_567 ⟨(Nat.le_of_ble_eq_true rfl), (Nat.le_of_ble_eq_true rfl)⟩) hS (fun r_567 ct_1 H locs p_567 hP hS => ?_)
  have hR2 := RFAt.keep hR (fun j h1 => p_567.2.2 j (by omega))
  obtain ⟨f9, h9⟩ := RFAt.obj hR2
  refine lv_aload_n hx hb dL_law_570 rfl (lv_at hl 2 rfl) ?_
  refine lv_aload_n hx hb dL_law_571 rfl (lv_at hl 0 rfl) ?_
  refine lv_iload_n hx hb dL_law_572 rfl (lv_at hl 3 rfl) ?_
  refine lv_iconst (v := (nI 1)) hx hb dL_law_573 (by decide) ?_
  refine lv_iadd hx hb dL_law_574 ?_
  refine fs_vi (y := nI (i + 1)) (nI_add _ _) ?_
  refine va_sld hx hb hX hbl hbA hS (vp_in_nI (by omega) (by omega)) dL_law_575 ?_
  refine lv_aload_n hx hb dL_law_576 rfl (lv_at hl 0 rfl) ?_
  refine lv_iload_n hx hb dL_law_577 rfl (lv_at hl 3 rfl) ?_
  refine lv_iconst (v := (nI 2)) hx hb dL_law_578 (by decide) ?_
  refine lv_iadd hx hb dL_law_579 ?_
  refine fs_vi (y := nI (i + 2)) (nI_add _ _) ?_
  refine va_sld hx hb hX hbl hbA hS (vp_in_nI (by omega) (by omega)) dL_law_580 ?_
  refine fs_i (va_runV (As := [.int (xs (nI (i + 1)).toNatClampNeg), .int (xs (nI (i + 2)).toNatClampNeg)]) (rest := [.int r_567]) E.1 (c_X8_world l g 249 ct_1 σ k hs u1 s1 u2 s2 t len (by omega) hG hR2 (xs (nI (i + 1)).toNatClampNeg) (xs (nI (i + 2)).toNatClampNeg)) (lk_RL_78 E.1.2.2.2.2 ⟨Nat.le_of_ble_eq_true rfl, Nat.le_of_ble_eq_true rfl⟩) (fpreV E hP hS fc8 h9 (by omega)) rfl rfl hl.1 rfl (lv_room (Nat.le_of_ble_eq_true rfl)) dL_law_581 ⟨(Nat.le_of_ble_eq_true rfl), (Nat.le_of_ble_eq_true rfl)⟩) hS (fun r_581 ct_2 H locs p_581 hP hS => ?_)
  have hO2 := OGAt.keep p_567.2.1 (fun j h1 => p_581.2.2 j (by omega))
  have hJ2 : lw_J g ct_2 := ⟨_, _, _, _, _, _, _, _, _, hO2, p_581.2.1⟩
  refine lv_icmp_eq (tgt := 839) hx hb dL_law_584 (by decide) (fun c_584 => ?_) (fun c_584 => ?_)
  · exact K _ _ _ _ hJ2 hP hS hl
  · exact absurd (p_567.1.trans p_581.1.symm) c_584
set_option maxRecDepth 100000 in
set_option maxHeartbeats 4000000 in
theorem lw_c15 (E : fE p m c cL_law 4 s #[.ref b] RL g) (hX : va_X b L xs s s.heap) (hbl : b < s.heap.size) (hbA : ¬ fB g b) (hL : L ≤ 2560) (hJ : lw_J g ct) (hP : fP g 249 ct H) (hS : va_S (fB g) s.heap H locs) (hi : i + 5 ≤ L) (hl : lv_has ls 4 [(0, .ref b), (1, .ref (fa g 0)), (2, .ref (fa g 239)), (3, .int (nI i))]) (K : ∀ (ct1 : Nat → va_E) (H1 : Heap) (locs1 : List Loc) (ls1 : Array Slot), lw_J g ct1 → fP g 249 ct1 H1 → va_S (fB g) s.heap H1 locs1 → lv_has ls1 4 [(0, .ref b), (1, .ref (fa g 0)), (2, .ref (fa g 239)), (3, .int (nI i))] → W p l e room_1 s m #[.ref b] below meth c H1 locs1 249 2736 Q (F0 m 839 ls1 [])) : W p l e room_1 s m #[.ref b] below meth c H locs 249 2736 Q (F0 m 589 ls []) := by
  obtain ⟨σ, k, hs, u1, s1, u2, s2, t, len, hO, hR⟩ := hJ
  have hx := E.1.1
  have hb := E.1.2.1
  have hG := hO.good
  have h128 := hO.ch
  obtain ⟨f7, h7⟩ := hO.obj
  obtain ⟨f8, h8⟩ := hR.obj
  refine lv_aload_n hx hb dL_law_589 rfl (lv_at hl 1 rfl) ?_
  refine lv_aload_n hx hb dL_law_590 rfl (lv_at hl 0 rfl) ?_
  refine lv_iload_n hx hb dL_law_591 rfl (lv_at hl 3 rfl) ?_
  refine lv_iconst (v := (nI 1)) hx hb dL_law_592 (by decide) ?_
  refine lv_iadd hx hb dL_law_593 ?_
  refine fs_vi (y := nI (i + 1)) (nI_add _ _) ?_
  refine va_sld hx hb hX hbl hbA hS (vp_in_nI (by omega) (by omega)) dL_law_594 ?_
  refine lv_aload_n hx hb dL_law_595 rfl (lv_at hl 0 rfl) ?_
  refine lv_iload_n hx hb dL_law_596 rfl (lv_at hl 3 rfl) ?_
  refine lv_iconst (v := (nI 2)) hx hb dL_law_597 (by decide) ?_
  refine lv_iadd hx hb dL_law_598 ?_
  refine fs_vi (y := nI (i + 2)) (nI_add _ _) ?_
  refine va_sld hx hb hX hbl hbA hS (vp_in_nI (by omega) (by omega)) dL_law_599 ?_
  refine lv_aload_n hx hb dL_law_600 rfl (lv_at hl 0 rfl) ?_
  refine lv_iload_n hx hb dL_law_601 rfl (lv_at hl 3 rfl) ?_
  refine lv_iconst (v := (nI 3)) hx hb dL_law_602 (by decide) ?_
  refine lv_iadd hx hb dL_law_603 ?_
  refine fs_vi (y := nI (i + 3)) (nI_add _ _) ?_
  refine va_sld hx hb hX hbl hbA hS (vp_in_nI (by omega) (by omega)) dL_law_604 ?_
  refine fs_i (va_runV (As := [.int (xs (nI (i + 1)).toNatClampNeg), .int (xs (nI (i + 2)).toNatClampNeg), .int (xs (nI (i + 3)).toNatClampNeg)]) (rest := []) E.1 (c_X7_ifProved l g 249 ct σ k hs u1 s1 u2 s2 t len (by omega) hO (xs (nI (i + 1)).toNatClampNeg) (xs (nI (i + 2)).toNatClampNeg) (xs (nI (i + 3)).toNatClampNeg)) (lk_RL_79 E.1.2.2.2.2 ⟨Nat.le_of_ble_eq_true rfl, Nat.le_of_ble_eq_true rfl⟩) (fpreV E hP hS fc7 h7 (by omega)) rfl rfl hl.1 rfl (lv_room (Nat.le_of_ble_eq_true rfl)) dL_law_605 ⟨(Nat.le_of_ble_eq_true rfl), (Nat.le_of_ble_eq_true rfl)⟩) hS (fun r_605 ct_1 H locs p_605 hP hS => ?_)
  have hR2 := RFAt.keep hR (fun j h1 => p_605.2.2 j (by omega))
  obtain ⟨f9, h9⟩ := RFAt.obj hR2
  refine lv_aload_n hx hb dL_law_608 rfl (lv_at hl 2 rfl) ?_
  refine lv_aload_n hx hb dL_law_609 rfl (lv_at hl 0 rfl) ?_
  refine lv_iload_n hx hb dL_law_610 rfl (lv_at hl 3 rfl) ?_
  refine lv_iconst (v := (nI 1)) hx hb dL_law_611 (by decide) ?_
  refine lv_iadd hx hb dL_law_612 ?_
  refine fs_vi (y := nI (i + 1)) (nI_add _ _) ?_
  refine va_sld hx hb hX hbl hbA hS (vp_in_nI (by omega) (by omega)) dL_law_613 ?_
  refine lv_aload_n hx hb dL_law_614 rfl (lv_at hl 0 rfl) ?_
  refine lv_iload_n hx hb dL_law_615 rfl (lv_at hl 3 rfl) ?_
  refine lv_iconst (v := (nI 2)) hx hb dL_law_616 (by decide) ?_
  refine lv_iadd hx hb dL_law_617 ?_
  refine fs_vi (y := nI (i + 2)) (nI_add _ _) ?_
  refine va_sld hx hb hX hbl hbA hS (vp_in_nI (by omega) (by omega)) dL_law_618 ?_
  refine lv_aload_n hx hb dL_law_619 rfl (lv_at hl 0 rfl) ?_
  refine lv_iload_n hx hb dL_law_620 rfl (lv_at hl 3 rfl) ?_
  refine lv_iconst (v := (nI 3)) hx hb dL_law_621 (by decide) ?_
  refine lv_iadd hx hb dL_law_622 ?_
  refine fs_vi (y := nI (i + 3)) (nI_add _ _) ?_
  refine va_sld hx hb hX hbl hbA hS (vp_in_nI (by omega) (by omega)) dL_law_623 ?_
  refine fs_i (va_runV (As := [.int (xs (nI (i + 1)).toNatClampNeg), .int (xs (nI (i + 2)).toNatClampNeg), .int (xs (nI (i + 3)).toNatClampNeg)]) (rest := [.int r_605]) E.1 (c_X8_ifProved l g 249 ct_1 σ k hs u1 s1 u2 s2 t len (by omega) hG hR2 (xs (nI (i + 1)).toNatClampNeg) (xs (nI (i + 2)).toNatClampNeg) (xs (nI (i + 3)).toNatClampNeg)) (lk_RL_82 E.1.2.2.2.2 ⟨Nat.le_of_ble_eq_true rfl, Nat.le_of_ble_eq_true rfl⟩) (fpreV E hP hS fc8 h9 (by omega)) rfl rfl hl.1 rfl (lv_room (Nat.le_of_ble_eq_true rfl)) dL_law_624 ⟨(Nat.le_of_ble_eq_true rfl), (Nat.le_of_ble_eq_true rfl)⟩) hS (fun r_624 ct_2 H locs p_624 hP hS => ?_)
  have hO2 := OGAt.keep p_605.2.1 (fun j h1 => p_624.2.2 j (by omega))
  have hJ2 : lw_J g ct_2 := ⟨_, _, _, _, _, _, _, _, _, hO2, p_624.2.1⟩
  refine lv_icmp_eq (tgt := 839) hx hb dL_law_627 (by decide) (fun c_627 => ?_) (fun c_627 => ?_)
  · exact K _ _ _ _ hJ2 hP hS hl
  · exact absurd (p_605.1.trans p_624.1.symm) c_627
set_option maxRecDepth 100000 in
set_option maxHeartbeats 4000000 in
theorem lw_c16 (E : fE p m c cL_law 4 s #[.ref b] RL g) (hX : va_X b L xs s s.heap) (hbl : b < s.heap.size) (hbA : ¬ fB g b) (hL : L ≤ 2560) (hJ : lw_J g ct) (hP : fP g 249 ct H) (hS : va_S (fB g) s.heap H locs) (hi : i + 5 ≤ L) (hl : lv_has ls 4 [(0, .ref b), (1, .ref (fa g 0)), (2, .ref (fa g 239)), (3, .int (nI i))]) (K : ∀ (ct1 : Nat → va_E) (H1 : Heap) (locs1 : List Loc) (ls1 : Array Slot), lw_J g ct1 → fP g 249 ct1 H1 → va_S (fB g) s.heap H1 locs1 → lv_has ls1 4 [(0, .ref b), (1, .ref (fa g 0)), (2, .ref (fa g 239)), (3, .int (nI i))] → W p l e room_1 s m #[.ref b] below meth c H1 locs1 249 2736 Q (F0 m 839 ls1 [])) : W p l e room_1 s m #[.ref b] below meth c H locs 249 2736 Q (F0 m 632 ls []) := by
  obtain ⟨σ, k, hs, u1, s1, u2, s2, t, len, hO, hR⟩ := hJ
  have hx := E.1.1
  have hb := E.1.2.1
  have hG := hO.good
  have h128 := hO.ch
  obtain ⟨f7, h7⟩ := hO.obj
  obtain ⟨f8, h8⟩ := hR.obj
  refine lv_aload_n hx hb dL_law_632 rfl (lv_at hl 1 rfl) ?_
  refine lv_aload_n hx hb dL_law_633 rfl (lv_at hl 0 rfl) ?_
  refine lv_iload_n hx hb dL_law_634 rfl (lv_at hl 3 rfl) ?_
  refine lv_iconst (v := (nI 1)) hx hb dL_law_635 (by decide) ?_
  refine lv_iadd hx hb dL_law_636 ?_
  refine fs_vi (y := nI (i + 1)) (nI_add _ _) ?_
  refine va_sld hx hb hX hbl hbA hS (vp_in_nI (by omega) (by omega)) dL_law_637 ?_
  refine fs_i (va_runV (As := [.int (xs (nI (i + 1)).toNatClampNeg)]) (rest := []) E.1 (c_X7_sharpest l g 249 ct σ k hs u1 s1 u2 s2 t len (by omega) hO (xs (nI (i + 1)).toNatClampNeg)) (lk_RL_83 E.1.2.2.2.2 ⟨Nat.le_of_ble_eq_true rfl, Nat.le_of_ble_eq_true rfl⟩) (fpreV E hP hS fc7 h7 (by omega)) rfl rfl hl.1 rfl (lv_room (Nat.le_of_ble_eq_true rfl)) dL_law_638 ⟨(Nat.le_of_ble_eq_true rfl), (Nat.le_of_ble_eq_true rfl)⟩) hS (fun r_638 ct_1 H locs p_638 hP hS => ?_)
  have hR2 := RFAt.keep hR (fun j h1 => p_638.2.2 j (by omega))
  obtain ⟨f9, h9⟩ := RFAt.obj hR2
  refine lv_aload_n hx hb dL_law_641 rfl (lv_at hl 2 rfl) ?_
  refine lv_aload_n hx hb dL_law_642 rfl (lv_at hl 0 rfl) ?_
  refine lv_iload_n hx hb dL_law_643 rfl (lv_at hl 3 rfl) ?_
  refine lv_iconst (v := (nI 1)) hx hb dL_law_644 (by decide) ?_
  refine lv_iadd hx hb dL_law_645 ?_
  refine fs_vi (y := nI (i + 1)) (nI_add _ _) ?_
  refine va_sld hx hb hX hbl hbA hS (vp_in_nI (by omega) (by omega)) dL_law_646 ?_
  refine fs_i (va_runV (As := [.int (xs (nI (i + 1)).toNatClampNeg)]) (rest := [.int r_638]) E.1 (c_X8_sharpest l g 249 ct_1 σ k hs u1 s1 u2 s2 t len (by omega) hG hR2 (xs (nI (i + 1)).toNatClampNeg)) (lk_RL_86 E.1.2.2.2.2 ⟨Nat.le_of_ble_eq_true rfl, Nat.le_of_ble_eq_true rfl⟩) (fpreV E hP hS fc8 h9 (by omega)) rfl rfl hl.1 rfl (lv_room (Nat.le_of_ble_eq_true rfl)) dL_law_647 ⟨(Nat.le_of_ble_eq_true rfl), (Nat.le_of_ble_eq_true rfl)⟩) hS (fun r_647 ct_2 H locs p_647 hP hS => ?_)
  have hO2 := OGAt.keep p_638.2.1 (fun j h1 => p_647.2.2 j (by omega))
  have hJ2 : lw_J g ct_2 := ⟨_, _, _, _, _, _, _, _, _, hO2, p_647.2.1⟩
  refine lv_icmp_eq (tgt := 839) hx hb dL_law_650 (by decide) (fun c_650 => ?_) (fun c_650 => ?_)
  · exact K _ _ _ _ hJ2 hP hS hl
  · exact absurd (p_638.1.trans p_647.1.symm) c_650
set_option maxRecDepth 100000 in
set_option maxHeartbeats 4000000 in
theorem lw_c17 (E : fE p m c cL_law 4 s #[.ref b] RL g) (hX : va_X b L xs s s.heap) (hbl : b < s.heap.size) (hbA : ¬ fB g b) (hL : L ≤ 2560) (hJ : lw_J g ct) (hP : fP g 249 ct H) (hS : va_S (fB g) s.heap H locs) (hi : i + 5 ≤ L) (hl : lv_has ls 4 [(0, .ref b), (1, .ref (fa g 0)), (2, .ref (fa g 239)), (3, .int (nI i))]) (K : ∀ (ct1 : Nat → va_E) (H1 : Heap) (locs1 : List Loc) (ls1 : Array Slot), lw_J g ct1 → fP g 249 ct1 H1 → va_S (fB g) s.heap H1 locs1 → lv_has ls1 4 [(0, .ref b), (1, .ref (fa g 0)), (2, .ref (fa g 239)), (3, .int (nI i))] → W p l e room_1 s m #[.ref b] below meth c H1 locs1 249 2736 Q (F0 m 839 ls1 [])) : W p l e room_1 s m #[.ref b] below meth c H locs 249 2736 Q (F0 m 655 ls []) := by
  obtain ⟨σ, k, hs, u1, s1, u2, s2, t, len, hO, hR⟩ := hJ
  have hx := E.1.1
  have hb := E.1.2.1
  have hG := hO.good
  have h128 := hO.ch
  obtain ⟨f7, h7⟩ := hO.obj
  obtain ⟨f8, h8⟩ := hR.obj
  refine lv_aload_n hx hb dL_law_655 rfl (lv_at hl 1 rfl) ?_
  refine lv_aload_n hx hb dL_law_656 rfl (lv_at hl 0 rfl) ?_
  refine lv_iload_n hx hb dL_law_657 rfl (lv_at hl 3 rfl) ?_
  refine lv_iconst (v := (nI 1)) hx hb dL_law_658 (by decide) ?_
  refine lv_iadd hx hb dL_law_659 ?_
  refine fs_vi (y := nI (i + 1)) (nI_add _ _) ?_
  refine va_sld hx hb hX hbl hbA hS (vp_in_nI (by omega) (by omega)) dL_law_660 ?_
  refine fs_i (va_runV (As := [.int (xs (nI (i + 1)).toNatClampNeg)]) (rest := []) E.1 (c_X7_blame l g 249 ct σ k hs u1 s1 u2 s2 t len (by omega) hO (xs (nI (i + 1)).toNatClampNeg)) (lk_RL_87 E.1.2.2.2.2 ⟨Nat.le_of_ble_eq_true rfl, Nat.le_of_ble_eq_true rfl⟩) (fpreV E hP hS fc7 h7 (by omega)) rfl rfl hl.1 rfl (lv_room (Nat.le_of_ble_eq_true rfl)) dL_law_661 ⟨(Nat.le_of_ble_eq_true rfl), (Nat.le_of_ble_eq_true rfl)⟩) hS (fun r_661 ct_1 H locs p_661 hP hS => ?_)
  have hR2 := RFAt.keep hR (fun j h1 => p_661.2.2 j (by omega))
  obtain ⟨f9, h9⟩ := RFAt.obj hR2
  refine lv_aload_n hx hb dL_law_664 rfl (lv_at hl 2 rfl) ?_
  refine lv_aload_n hx hb dL_law_665 rfl (lv_at hl 0 rfl) ?_
  refine lv_iload_n hx hb dL_law_666 rfl (lv_at hl 3 rfl) ?_
  refine lv_iconst (v := (nI 1)) hx hb dL_law_667 (by decide) ?_
  refine lv_iadd hx hb dL_law_668 ?_
  refine fs_vi (y := nI (i + 1)) (nI_add _ _) ?_
  refine va_sld hx hb hX hbl hbA hS (vp_in_nI (by omega) (by omega)) dL_law_669 ?_
  refine fs_i (va_runV (As := [.int (xs (nI (i + 1)).toNatClampNeg)]) (rest := [.int r_661]) E.1 (c_X8_blame l g 249 ct_1 σ k hs u1 s1 u2 s2 t len (by omega) hG hR2 (xs (nI (i + 1)).toNatClampNeg)) (lk_RL_90 E.1.2.2.2.2 ⟨Nat.le_of_ble_eq_true rfl, Nat.le_of_ble_eq_true rfl⟩) (fpreV E hP hS fc8 h9 (by omega)) rfl rfl hl.1 rfl (lv_room (Nat.le_of_ble_eq_true rfl)) dL_law_670 ⟨(Nat.le_of_ble_eq_true rfl), (Nat.le_of_ble_eq_true rfl)⟩) hS (fun r_670 ct_2 H locs p_670 hP hS => ?_)
  have hO2 := OGAt.keep p_661.2.1 (fun j h1 => p_670.2.2 j (by omega))
  have hJ2 : lw_J g ct_2 := ⟨_, _, _, _, _, _, _, _, _, hO2, p_670.2.1⟩
  refine lv_icmp_eq (tgt := 839) hx hb dL_law_673 (by decide) (fun c_673 => ?_) (fun c_673 => ?_)
  · exact K _ _ _ _ hJ2 hP hS hl
  · exact absurd (p_661.1.trans p_670.1.symm) c_673
set_option maxRecDepth 100000 in
set_option maxHeartbeats 4000000 in
theorem lw_c18 (E : fE p m c cL_law 4 s #[.ref b] RL g) (hX : va_X b L xs s s.heap) (hbl : b < s.heap.size) (hbA : ¬ fB g b) (hL : L ≤ 2560) (hJ : lw_J g ct) (hP : fP g 249 ct H) (hS : va_S (fB g) s.heap H locs) (hi : i + 5 ≤ L) (hl : lv_has ls 4 [(0, .ref b), (1, .ref (fa g 0)), (2, .ref (fa g 239)), (3, .int (nI i))]) (K : ∀ (ct1 : Nat → va_E) (H1 : Heap) (locs1 : List Loc) (ls1 : Array Slot), lw_J g ct1 → fP g 249 ct1 H1 → va_S (fB g) s.heap H1 locs1 → lv_has ls1 4 [(0, .ref b), (1, .ref (fa g 0)), (2, .ref (fa g 239)), (3, .int (nI i))] → W p l e room_1 s m #[.ref b] below meth c H1 locs1 249 2736 Q (F0 m 839 ls1 [])) : W p l e room_1 s m #[.ref b] below meth c H locs 249 2736 Q (F0 m 678 ls []) := by
  obtain ⟨σ, k, hs, u1, s1, u2, s2, t, len, hO, hR⟩ := hJ
  have hx := E.1.1
  have hb := E.1.2.1
  have hG := hO.good
  have h128 := hO.ch
  obtain ⟨f7, h7⟩ := hO.obj
  obtain ⟨f8, h8⟩ := hR.obj
  refine lv_aload_n hx hb dL_law_678 rfl (lv_at hl 1 rfl) ?_
  refine lv_aload_n hx hb dL_law_679 rfl (lv_at hl 0 rfl) ?_
  refine lv_iload_n hx hb dL_law_680 rfl (lv_at hl 3 rfl) ?_
  refine lv_iconst (v := (nI 1)) hx hb dL_law_681 (by decide) ?_
  refine lv_iadd hx hb dL_law_682 ?_
  refine fs_vi (y := nI (i + 1)) (nI_add _ _) ?_
  refine va_sld hx hb hX hbl hbA hS (vp_in_nI (by omega) (by omega)) dL_law_683 ?_
  refine fs_i (va_runV (As := [.int (xs (nI (i + 1)).toNatClampNeg)]) (rest := []) E.1 (c_X7_mostWatched l g 249 ct σ k hs u1 s1 u2 s2 t len (by omega) hO (xs (nI (i + 1)).toNatClampNeg)) (lk_RL_91 E.1.2.2.2.2 ⟨Nat.le_of_ble_eq_true rfl, Nat.le_of_ble_eq_true rfl⟩) (fpreV E hP hS fc7 h7 (by omega)) rfl rfl hl.1 rfl (lv_room (Nat.le_of_ble_eq_true rfl)) dL_law_684 ⟨(Nat.le_of_ble_eq_true rfl), (Nat.le_of_ble_eq_true rfl)⟩) hS (fun r_684 ct_1 H locs p_684 hP hS => ?_)
  have hR2 := RFAt.keep hR (fun j h1 => p_684.2.2 j (by omega))
  obtain ⟨f9, h9⟩ := RFAt.obj hR2
  refine lv_aload_n hx hb dL_law_687 rfl (lv_at hl 2 rfl) ?_
  refine lv_aload_n hx hb dL_law_688 rfl (lv_at hl 0 rfl) ?_
  refine lv_iload_n hx hb dL_law_689 rfl (lv_at hl 3 rfl) ?_
  refine lv_iconst (v := (nI 1)) hx hb dL_law_690 (by decide) ?_
  refine lv_iadd hx hb dL_law_691 ?_
  refine fs_vi (y := nI (i + 1)) (nI_add _ _) ?_
  refine va_sld hx hb hX hbl hbA hS (vp_in_nI (by omega) (by omega)) dL_law_692 ?_
  refine fs_i (va_runV (As := [.int (xs (nI (i + 1)).toNatClampNeg)]) (rest := [.int r_684]) E.1 (c_X8_mostWatched l g 249 ct_1 σ k hs u1 s1 u2 s2 t len (by omega) hG hR2 (xs (nI (i + 1)).toNatClampNeg)) (lk_RL_94 E.1.2.2.2.2 ⟨Nat.le_of_ble_eq_true rfl, Nat.le_of_ble_eq_true rfl⟩) (fpreV E hP hS fc8 h9 (by omega)) rfl rfl hl.1 rfl (lv_room (Nat.le_of_ble_eq_true rfl)) dL_law_693 ⟨(Nat.le_of_ble_eq_true rfl), (Nat.le_of_ble_eq_true rfl)⟩) hS (fun r_693 ct_2 H locs p_693 hP hS => ?_)
  have hO2 := OGAt.keep p_684.2.1 (fun j h1 => p_693.2.2 j (by omega))
  have hJ2 : lw_J g ct_2 := ⟨_, _, _, _, _, _, _, _, _, hO2, p_693.2.1⟩
  refine lv_icmp_eq (tgt := 839) hx hb dL_law_696 (by decide) (fun c_696 => ?_) (fun c_696 => ?_)
  · exact K _ _ _ _ hJ2 hP hS hl
  · exact absurd (p_684.1.trans p_693.1.symm) c_696
set_option maxRecDepth 100000 in
set_option maxHeartbeats 4000000 in
theorem lw_c19 (E : fE p m c cL_law 4 s #[.ref b] RL g) (hX : va_X b L xs s s.heap) (hbl : b < s.heap.size) (hbA : ¬ fB g b) (hL : L ≤ 2560) (hJ : lw_J g ct) (hP : fP g 249 ct H) (hS : va_S (fB g) s.heap H locs) (hi : i + 5 ≤ L) (hl : lv_has ls 4 [(0, .ref b), (1, .ref (fa g 0)), (2, .ref (fa g 239)), (3, .int (nI i))]) (K : ∀ (ct1 : Nat → va_E) (H1 : Heap) (locs1 : List Loc) (ls1 : Array Slot), lw_J g ct1 → fP g 249 ct1 H1 → va_S (fB g) s.heap H1 locs1 → lv_has ls1 4 [(0, .ref b), (1, .ref (fa g 0)), (2, .ref (fa g 239)), (3, .int (nI i))] → W p l e room_1 s m #[.ref b] below meth c H1 locs1 249 2736 Q (F0 m 839 ls1 [])) : W p l e room_1 s m #[.ref b] below meth c H locs 249 2736 Q (F0 m 701 ls []) := by
  obtain ⟨σ, k, hs, u1, s1, u2, s2, t, len, hO, hR⟩ := hJ
  have hx := E.1.1
  have hb := E.1.2.1
  have hG := hO.good
  have h128 := hO.ch
  obtain ⟨f7, h7⟩ := hO.obj
  obtain ⟨f8, h8⟩ := hR.obj
  refine lv_aload_n hx hb dL_law_701 rfl (lv_at hl 1 rfl) ?_
  refine lv_aload_n hx hb dL_law_702 rfl (lv_at hl 0 rfl) ?_
  refine lv_iload_n hx hb dL_law_703 rfl (lv_at hl 3 rfl) ?_
  refine lv_iconst (v := (nI 1)) hx hb dL_law_704 (by decide) ?_
  refine lv_iadd hx hb dL_law_705 ?_
  refine fs_vi (y := nI (i + 1)) (nI_add _ _) ?_
  refine va_sld hx hb hX hbl hbA hS (vp_in_nI (by omega) (by omega)) dL_law_706 ?_
  refine lv_i2l (v := (xs (nI (i + 1)).toNatClampNeg).toInt64) hx hb dL_law_707 rfl ?_
  refine lv_bipush (v := (nI 32)) hx hb dL_law_708 (by decide) ?_
  refine lv_lshl (v := ((xs (nI (i + 1)).toNatClampNeg).toInt64 <<< ((nI 32).toInt64 &&& 63))) hx hb dL_law_710 rfl ?_
  refine lv_aload_n hx hb dL_law_711 rfl (lv_at hl 0 rfl) ?_
  refine lv_iload_n hx hb dL_law_712 rfl (lv_at hl 3 rfl) ?_
  refine lv_iconst (v := (nI 2)) hx hb dL_law_713 (by decide) ?_
  refine lv_iadd hx hb dL_law_714 ?_
  refine fs_vi (y := nI (i + 2)) (nI_add _ _) ?_
  refine va_sld hx hb hX hbl hbA hS (vp_in_nI (by omega) (by omega)) dL_law_715 ?_
  refine lv_i2l (v := (xs (nI (i + 2)).toNatClampNeg).toInt64) hx hb dL_law_716 rfl ?_
  refine lv_ldc2 (v := 4294967295) hx hb E.1.2.2.2.1 (E.1.2.2.2.2 _ (wm wl_1 (i := 6) rfl)) dL_law_717 ?_
  refine lv_land hx hb dL_law_720 ?_
  refine lv_lor hx hb dL_law_721 ?_
  obtain ⟨v9, hv9, ev9⟩ := wb_of (((xs (nI (i + 1)).toNatClampNeg).toInt64 <<< ((nI 32).toInt64 &&& 63)) ||| ((xs (nI (i + 2)).toNatClampNeg).toInt64 &&& 4294967295))
  refine fs_vv (y := .long (lN v9)) (congrArg Value.long ev9) ?_
  refine fs_i (va_runV (As := [.long (lN v9)]) (rest := []) E.1 (c_X7_put l g 249 ct σ k hs u1 s1 u2 s2 t len (by omega) hO v9 hv9) (lk_RL_97 E.1.2.2.2.2 ⟨Nat.le_of_ble_eq_true rfl, Nat.le_of_ble_eq_true rfl⟩) (fpreV E hP hS fc7 h7 (by omega)) rfl rfl hl.1 rfl (lv_room (Nat.le_of_ble_eq_true rfl)) dL_law_722 ⟨(Nat.le_of_ble_eq_true rfl), (Nat.le_of_ble_eq_true rfl)⟩) hS (fun r_722 ct_1 H locs p_722 hP hS => ?_)
  have hR2 := RFAt.keep hR (fun j h1 => p_722.2.2 j (by omega))
  obtain ⟨f9, h9⟩ := RFAt.obj hR2
  refine lv_aload_n hx hb dL_law_725 rfl (lv_at hl 2 rfl) ?_
  refine lv_aload_n hx hb dL_law_726 rfl (lv_at hl 0 rfl) ?_
  refine lv_iload_n hx hb dL_law_727 rfl (lv_at hl 3 rfl) ?_
  refine lv_iconst (v := (nI 1)) hx hb dL_law_728 (by decide) ?_
  refine lv_iadd hx hb dL_law_729 ?_
  refine fs_vi (y := nI (i + 1)) (nI_add _ _) ?_
  refine va_sld hx hb hX hbl hbA hS (vp_in_nI (by omega) (by omega)) dL_law_730 ?_
  refine lv_i2l (v := (xs (nI (i + 1)).toNatClampNeg).toInt64) hx hb dL_law_731 rfl ?_
  refine lv_bipush (v := (nI 32)) hx hb dL_law_732 (by decide) ?_
  refine lv_lshl (v := ((xs (nI (i + 1)).toNatClampNeg).toInt64 <<< ((nI 32).toInt64 &&& 63))) hx hb dL_law_734 rfl ?_
  refine lv_aload_n hx hb dL_law_735 rfl (lv_at hl 0 rfl) ?_
  refine lv_iload_n hx hb dL_law_736 rfl (lv_at hl 3 rfl) ?_
  refine lv_iconst (v := (nI 2)) hx hb dL_law_737 (by decide) ?_
  refine lv_iadd hx hb dL_law_738 ?_
  refine fs_vi (y := nI (i + 2)) (nI_add _ _) ?_
  refine va_sld hx hb hX hbl hbA hS (vp_in_nI (by omega) (by omega)) dL_law_739 ?_
  refine lv_i2l (v := (xs (nI (i + 2)).toNatClampNeg).toInt64) hx hb dL_law_740 rfl ?_
  refine lv_ldc2 (v := 4294967295) hx hb E.1.2.2.2.1 (E.1.2.2.2.2 _ (wm wl_1 (i := 6) rfl)) dL_law_741 ?_
  refine lv_land hx hb dL_law_744 ?_
  refine lv_lor hx hb dL_law_745 ?_
  refine fs_vv (y := .long (lN v9)) (congrArg Value.long ev9) ?_
  refine fs_i (va_runV (As := [.long (lN v9)]) (rest := [.int r_722]) E.1 (c_X8_put l g 249 ct_1 σ k hs u1 s1 u2 s2 t len (by omega) hG hR2 v9 hv9) (lk_RL_101 E.1.2.2.2.2 ⟨Nat.le_of_ble_eq_true rfl, Nat.le_of_ble_eq_true rfl⟩) (fpreV E hP hS fc8 h9 (by omega)) rfl rfl hl.1 rfl (lv_room (Nat.le_of_ble_eq_true rfl)) dL_law_746 ⟨(Nat.le_of_ble_eq_true rfl), (Nat.le_of_ble_eq_true rfl)⟩) hS (fun r_746 ct_2 H locs p_746 hP hS => ?_)
  have hO2 := OGAt.keep p_722.2.1 (fun j h1 => p_746.2.2 j (by omega))
  have hJ2 : lw_J g ct_2 := ⟨_, _, _, _, _, _, _, _, _, hO2, p_746.2.1⟩
  refine lv_icmp_eq (tgt := 839) hx hb dL_law_749 (by decide) (fun c_749 => ?_) (fun c_749 => ?_)
  · exact K _ _ _ _ hJ2 hP hS hl
  · exact absurd (p_722.1.trans p_746.1.symm) c_749
set_option maxRecDepth 100000 in
set_option maxHeartbeats 4000000 in
theorem lw_c20 (E : fE p m c cL_law 4 s #[.ref b] RL g) (hX : va_X b L xs s s.heap) (hbl : b < s.heap.size) (hbA : ¬ fB g b) (hL : L ≤ 2560) (hJ : lw_J g ct) (hP : fP g 249 ct H) (hS : va_S (fB g) s.heap H locs) (hi : i + 5 ≤ L) (hl : lv_has ls 4 [(0, .ref b), (1, .ref (fa g 0)), (2, .ref (fa g 239)), (3, .int (nI i))]) (K : ∀ (ct1 : Nat → va_E) (H1 : Heap) (locs1 : List Loc) (ls1 : Array Slot), lw_J g ct1 → fP g 249 ct1 H1 → va_S (fB g) s.heap H1 locs1 → lv_has ls1 4 [(0, .ref b), (1, .ref (fa g 0)), (2, .ref (fa g 239)), (3, .int (nI i))] → W p l e room_1 s m #[.ref b] below meth c H1 locs1 249 2736 Q (F0 m 839 ls1 [])) : W p l e room_1 s m #[.ref b] below meth c H locs 249 2736 Q (F0 m 754 ls []) := by
  obtain ⟨σ, k, hs, u1, s1, u2, s2, t, len, hO, hR⟩ := hJ
  have hx := E.1.1
  have hb := E.1.2.1
  have hG := hO.good
  have h128 := hO.ch
  obtain ⟨f7, h7⟩ := hO.obj
  obtain ⟨f8, h8⟩ := hR.obj
  refine lv_aload_n hx hb dL_law_754 rfl (lv_at hl 1 rfl) ?_
  refine fs_i (va_runV (As := []) (rest := []) E.1 (c_X7_wipe l g 249 ct σ k hs u1 s1 u2 s2 t len (by omega) hO ) (lk_RL_102 E.1.2.2.2.2 ⟨Nat.le_of_ble_eq_true rfl, Nat.le_of_ble_eq_true rfl⟩) (fpreV E hP hS fc7 h7 (by omega)) rfl rfl hl.1 rfl (lv_room (Nat.le_of_ble_eq_true rfl)) dL_law_755 ⟨(Nat.le_of_ble_eq_true rfl), (Nat.le_of_ble_eq_true rfl)⟩) hS (fun r_755 ct_1 H locs p_755 hP hS => ?_)
  have hR2 := RFAt.keep hR (fun j h1 => p_755.2.2 j (by omega))
  obtain ⟨f9, h9⟩ := RFAt.obj hR2
  refine lv_aload_n hx hb dL_law_758 rfl (lv_at hl 2 rfl) ?_
  refine fs_i (va_runV (As := []) (rest := [.int r_755]) E.1 (c_X8_wipe l g 249 ct_1 σ k hs u1 s1 u2 s2 t len (by omega) hG hR2 ) (lk_RL_105 E.1.2.2.2.2 ⟨Nat.le_of_ble_eq_true rfl, Nat.le_of_ble_eq_true rfl⟩) (fpreV E hP hS fc8 h9 (by omega)) rfl rfl hl.1 rfl (lv_room (Nat.le_of_ble_eq_true rfl)) dL_law_759 ⟨(Nat.le_of_ble_eq_true rfl), (Nat.le_of_ble_eq_true rfl)⟩) hS (fun r_759 ct_2 H locs p_759 hP hS => ?_)
  have hO2 := OGAt.keep p_755.2.1 (fun j h1 => p_759.2.2 j (by omega))
  have hJ2 : lw_J g ct_2 := ⟨_, _, _, _, _, _, _, _, _, hO2, p_759.2.1⟩
  refine lv_icmp_eq (tgt := 839) hx hb dL_law_762 (by decide) (fun c_762 => ?_) (fun c_762 => ?_)
  · exact K _ _ _ _ hJ2 hP hS hl
  · exact absurd (p_755.1.trans p_759.1.symm) c_762
set_option maxRecDepth 100000 in
set_option maxHeartbeats 4000000 in
theorem lw_c21 (E : fE p m c cL_law 4 s #[.ref b] RL g) (hX : va_X b L xs s s.heap) (hbl : b < s.heap.size) (hbA : ¬ fB g b) (hL : L ≤ 2560) (hJ : lw_J g ct) (hP : fP g 249 ct H) (hS : va_S (fB g) s.heap H locs) (hi : i + 5 ≤ L) (hl : lv_has ls 4 [(0, .ref b), (1, .ref (fa g 0)), (2, .ref (fa g 239)), (3, .int (nI i))]) (K : ∀ (ct1 : Nat → va_E) (H1 : Heap) (locs1 : List Loc) (ls1 : Array Slot), lw_J g ct1 → fP g 249 ct1 H1 → va_S (fB g) s.heap H1 locs1 → lv_has ls1 4 [(0, .ref b), (1, .ref (fa g 0)), (2, .ref (fa g 239)), (3, .int (nI i))] → W p l e room_1 s m #[.ref b] below meth c H1 locs1 249 2736 Q (F0 m 839 ls1 [])) : W p l e room_1 s m #[.ref b] below meth c H locs 249 2736 Q (F0 m 767 ls []) := by
  obtain ⟨σ, k, hs, u1, s1, u2, s2, t, len, hO, hR⟩ := hJ
  have hx := E.1.1
  have hb := E.1.2.1
  have hG := hO.good
  have h128 := hO.ch
  obtain ⟨f7, h7⟩ := hO.obj
  obtain ⟨f8, h8⟩ := hR.obj
  refine lv_aload_n hx hb dL_law_767 rfl (lv_at hl 1 rfl) ?_
  refine fs_pi (va_runV (As := []) (rest := []) E.1 (c_X7_fault l g 249 ct σ k hs u1 s1 u2 s2 t len (by omega) hO ) (lk_RL_106 E.1.2.2.2.2 ⟨Nat.le_of_ble_eq_true rfl, Nat.le_of_ble_eq_true rfl⟩) (fpreV E hP hS fc7 h7 (by omega)) rfl rfl hl.1 rfl (lv_room (Nat.le_of_ble_eq_true rfl)) dL_law_768 ⟨(Nat.le_of_ble_eq_true rfl), (Nat.le_of_ble_eq_true rfl)⟩) hS (fun r_768 locs p_768 hS => ?_)
  refine lv_aload_n hx hb dL_law_771 rfl (lv_at hl 2 rfl) ?_
  refine fs_i (va_runV (As := []) (rest := [.int r_768]) E.1 (c_X8_fault l g 249 ct σ k hs u1 s1 u2 s2 t len (by omega) hG hR h128) (lk_RL_109 E.1.2.2.2.2 ⟨Nat.le_of_ble_eq_true rfl, Nat.le_of_ble_eq_true rfl⟩) (fpreV E hP hS fc8 h8 (by omega)) rfl rfl hl.1 rfl (lv_room (Nat.le_of_ble_eq_true rfl)) dL_law_772 ⟨(Nat.le_of_ble_eq_true rfl), (Nat.le_of_ble_eq_true rfl)⟩) hS (fun r_772 ct_1 H locs p_772 hP hS => ?_)
  have hO2 := OGAt.keep hO (fun j h1 => p_772.2.2 j (by omega))
  have hJ2 : lw_J g ct_1 := ⟨_, _, _, _, _, _, _, _, _, hO2, p_772.2.1⟩
  refine lv_icmp_eq (tgt := 839) hx hb dL_law_775 (by decide) (fun c_775 => ?_) (fun c_775 => ?_)
  · exact K _ _ _ _ hJ2 hP hS hl
  · exact absurd (p_768.trans p_772.1.symm) c_775
set_option maxRecDepth 100000 in
set_option maxHeartbeats 4000000 in
theorem lw_c22 (E : fE p m c cL_law 4 s #[.ref b] RL g) (hX : va_X b L xs s s.heap) (hbl : b < s.heap.size) (hbA : ¬ fB g b) (hL : L ≤ 2560) (hJ : lw_J g ct) (hP : fP g 249 ct H) (hS : va_S (fB g) s.heap H locs) (hi : i + 5 ≤ L) (hl : lv_has ls 4 [(0, .ref b), (1, .ref (fa g 0)), (2, .ref (fa g 239)), (3, .int (nI i))]) (K : ∀ (ct1 : Nat → va_E) (H1 : Heap) (locs1 : List Loc) (ls1 : Array Slot), lw_J g ct1 → fP g 249 ct1 H1 → va_S (fB g) s.heap H1 locs1 → lv_has ls1 4 [(0, .ref b), (1, .ref (fa g 0)), (2, .ref (fa g 239)), (3, .int (nI i))] → W p l e room_1 s m #[.ref b] below meth c H1 locs1 249 2736 Q (F0 m 839 ls1 [])) : W p l e room_1 s m #[.ref b] below meth c H locs 249 2736 Q (F0 m 780 ls []) := by
  obtain ⟨σ, k, hs, u1, s1, u2, s2, t, len, hO, hR⟩ := hJ
  have hx := E.1.1
  have hb := E.1.2.1
  have hG := hO.good
  have h128 := hO.ch
  obtain ⟨f7, h7⟩ := hO.obj
  obtain ⟨f8, h8⟩ := hR.obj
  refine lv_aload_n hx hb dL_law_780 rfl (lv_at hl 1 rfl) ?_
  refine fs_i (va_runV (As := []) (rest := []) E.1 (c_X7_undo l g 249 ct σ k hs u1 s1 u2 s2 t len (by omega) hO ) (lk_RL_110 E.1.2.2.2.2 ⟨Nat.le_of_ble_eq_true rfl, Nat.le_of_ble_eq_true rfl⟩) (fpreV E hP hS fc7 h7 (by omega)) rfl rfl hl.1 rfl (lv_room (Nat.le_of_ble_eq_true rfl)) dL_law_781 ⟨(Nat.le_of_ble_eq_true rfl), (Nat.le_of_ble_eq_true rfl)⟩) hS (fun r_781 ct_1 H locs p_781 hP hS => ?_)
  have hR2 := RFAt.keep hR (fun j h1 => p_781.2.2 j (by omega))
  obtain ⟨f9, h9⟩ := RFAt.obj hR2
  refine lv_aload_n hx hb dL_law_784 rfl (lv_at hl 2 rfl) ?_
  refine fs_i (va_runV (As := []) (rest := [.int r_781]) E.1 (c_X8_undo l g 249 ct_1 σ k hs u1 s1 u2 s2 t len (by omega) hG hR2 ) (lk_RL_113 E.1.2.2.2.2 ⟨Nat.le_of_ble_eq_true rfl, Nat.le_of_ble_eq_true rfl⟩) (fpreV E hP hS fc8 h9 (by omega)) rfl rfl hl.1 rfl (lv_room (Nat.le_of_ble_eq_true rfl)) dL_law_785 ⟨(Nat.le_of_ble_eq_true rfl), (Nat.le_of_ble_eq_true rfl)⟩) hS (fun r_785 ct_2 H locs p_785 hP hS => ?_)
  have hO2 := OGAt.keep p_781.2.1 (fun j h1 => p_785.2.2 j (by omega))
  have hJ2 : lw_J g ct_2 := ⟨_, _, _, _, _, _, _, _, _, hO2, p_785.2.1⟩
  refine lv_icmp_eq (tgt := 839) hx hb dL_law_788 (by decide) (fun c_788 => ?_) (fun c_788 => ?_)
  · exact K _ _ _ _ hJ2 hP hS hl
  · exact absurd (p_781.1.trans p_785.1.symm) c_788
set_option maxRecDepth 100000 in
set_option maxHeartbeats 4000000 in
theorem lw_c23 (E : fE p m c cL_law 4 s #[.ref b] RL g) (hX : va_X b L xs s s.heap) (hbl : b < s.heap.size) (hbA : ¬ fB g b) (hL : L ≤ 2560) (hJ : lw_J g ct) (hP : fP g 249 ct H) (hS : va_S (fB g) s.heap H locs) (hi : i + 5 ≤ L) (hl : lv_has ls 4 [(0, .ref b), (1, .ref (fa g 0)), (2, .ref (fa g 239)), (3, .int (nI i))]) (K : ∀ (ct1 : Nat → va_E) (H1 : Heap) (locs1 : List Loc) (ls1 : Array Slot), lw_J g ct1 → fP g 249 ct1 H1 → va_S (fB g) s.heap H1 locs1 → lv_has ls1 4 [(0, .ref b), (1, .ref (fa g 0)), (2, .ref (fa g 239)), (3, .int (nI i))] → W p l e room_1 s m #[.ref b] below meth c H1 locs1 249 2736 Q (F0 m 839 ls1 [])) : W p l e room_1 s m #[.ref b] below meth c H locs 249 2736 Q (F0 m 793 ls []) := by
  obtain ⟨σ, k, hs, u1, s1, u2, s2, t, len, hO, hR⟩ := hJ
  have hx := E.1.1
  have hb := E.1.2.1
  have hG := hO.good
  have h128 := hO.ch
  obtain ⟨f7, h7⟩ := hO.obj
  obtain ⟨f8, h8⟩ := hR.obj
  refine lv_aload_n hx hb dL_law_793 rfl (lv_at hl 1 rfl) ?_
  refine lv_aload_n hx hb dL_law_794 rfl (lv_at hl 0 rfl) ?_
  refine lv_iload_n hx hb dL_law_795 rfl (lv_at hl 3 rfl) ?_
  refine lv_iconst (v := (nI 1)) hx hb dL_law_796 (by decide) ?_
  refine lv_iadd hx hb dL_law_797 ?_
  refine fs_vi (y := nI (i + 1)) (nI_add _ _) ?_
  refine va_sld hx hb hX hbl hbA hS (vp_in_nI (by omega) (by omega)) dL_law_798 ?_
  refine fs_i (va_runV (As := [.int (xs (nI (i + 1)).toNatClampNeg)]) (rest := []) E.1 (c_X7_save l g 249 ct σ k hs u1 s1 u2 s2 t len (by omega) hO (xs (nI (i + 1)).toNatClampNeg)) (lk_RL_114 E.1.2.2.2.2 ⟨Nat.le_of_ble_eq_true rfl, Nat.le_of_ble_eq_true rfl⟩) (fpreV E hP hS fc7 h7 (by omega)) rfl rfl hl.1 rfl (lv_room (Nat.le_of_ble_eq_true rfl)) dL_law_799 ⟨(Nat.le_of_ble_eq_true rfl), (Nat.le_of_ble_eq_true rfl)⟩) hS (fun r_799 ct_1 H locs p_799 hP hS => ?_)
  have hR2 := RFAt.keep hR (fun j h1 => p_799.2.2 j (by omega))
  obtain ⟨f9, h9⟩ := RFAt.obj hR2
  refine lv_aload_n hx hb dL_law_802 rfl (lv_at hl 2 rfl) ?_
  refine lv_aload_n hx hb dL_law_803 rfl (lv_at hl 0 rfl) ?_
  refine lv_iload_n hx hb dL_law_804 rfl (lv_at hl 3 rfl) ?_
  refine lv_iconst (v := (nI 1)) hx hb dL_law_805 (by decide) ?_
  refine lv_iadd hx hb dL_law_806 ?_
  refine fs_vi (y := nI (i + 1)) (nI_add _ _) ?_
  refine va_sld hx hb hX hbl hbA hS (vp_in_nI (by omega) (by omega)) dL_law_807 ?_
  refine fs_i (va_runV (As := [.int (xs (nI (i + 1)).toNatClampNeg)]) (rest := [.int r_799]) E.1 (c_X8_save l g 249 ct_1 σ k hs u1 s1 u2 s2 t len (by omega) hG hR2 (xs (nI (i + 1)).toNatClampNeg)) (lk_RL_117 E.1.2.2.2.2 ⟨Nat.le_of_ble_eq_true rfl, Nat.le_of_ble_eq_true rfl⟩) (fpreV E hP hS fc8 h9 (by omega)) rfl rfl hl.1 rfl (lv_room (Nat.le_of_ble_eq_true rfl)) dL_law_808 ⟨(Nat.le_of_ble_eq_true rfl), (Nat.le_of_ble_eq_true rfl)⟩) hS (fun r_808 ct_2 H locs p_808 hP hS => ?_)
  have hO2 := OGAt.keep p_799.2.1 (fun j h1 => p_808.2.2 j (by omega))
  have hJ2 : lw_J g ct_2 := ⟨_, _, _, _, _, _, _, _, _, hO2, p_808.2.1⟩
  refine lv_icmp_eq (tgt := 839) hx hb dL_law_811 (by decide) (fun c_811 => ?_) (fun c_811 => ?_)
  · exact K _ _ _ _ hJ2 hP hS hl
  · exact absurd (p_799.1.trans p_808.1.symm) c_811
set_option maxRecDepth 100000 in
set_option maxHeartbeats 4000000 in
theorem lw_c24 (E : fE p m c cL_law 4 s #[.ref b] RL g) (hX : va_X b L xs s s.heap) (hbl : b < s.heap.size) (hbA : ¬ fB g b) (hL : L ≤ 2560) (hJ : lw_J g ct) (hP : fP g 249 ct H) (hS : va_S (fB g) s.heap H locs) (hi : i + 5 ≤ L) (hl : lv_has ls 4 [(0, .ref b), (1, .ref (fa g 0)), (2, .ref (fa g 239)), (3, .int (nI i))]) (K : ∀ (ct1 : Nat → va_E) (H1 : Heap) (locs1 : List Loc) (ls1 : Array Slot), lw_J g ct1 → fP g 249 ct1 H1 → va_S (fB g) s.heap H1 locs1 → lv_has ls1 4 [(0, .ref b), (1, .ref (fa g 0)), (2, .ref (fa g 239)), (3, .int (nI i))] → W p l e room_1 s m #[.ref b] below meth c H1 locs1 249 2736 Q (F0 m 839 ls1 [])) : W p l e room_1 s m #[.ref b] below meth c H locs 249 2736 Q (F0 m 816 ls []) := by
  obtain ⟨σ, k, hs, u1, s1, u2, s2, t, len, hO, hR⟩ := hJ
  have hx := E.1.1
  have hb := E.1.2.1
  have hG := hO.good
  have h128 := hO.ch
  obtain ⟨f7, h7⟩ := hO.obj
  obtain ⟨f8, h8⟩ := hR.obj
  refine lv_aload_n hx hb dL_law_816 rfl (lv_at hl 1 rfl) ?_
  refine lv_aload_n hx hb dL_law_817 rfl (lv_at hl 0 rfl) ?_
  refine lv_iload_n hx hb dL_law_818 rfl (lv_at hl 3 rfl) ?_
  refine lv_iconst (v := (nI 1)) hx hb dL_law_819 (by decide) ?_
  refine lv_iadd hx hb dL_law_820 ?_
  refine fs_vi (y := nI (i + 1)) (nI_add _ _) ?_
  refine va_sld hx hb hX hbl hbA hS (vp_in_nI (by omega) (by omega)) dL_law_821 ?_
  refine fs_i (va_runV (As := [.int (xs (nI (i + 1)).toNatClampNeg)]) (rest := []) E.1 (c_X7_restore l g 249 ct σ k hs u1 s1 u2 s2 t len (by omega) hO (xs (nI (i + 1)).toNatClampNeg)) (lk_RL_118 E.1.2.2.2.2 ⟨Nat.le_of_ble_eq_true rfl, Nat.le_of_ble_eq_true rfl⟩) (fpreV E hP hS fc7 h7 (by omega)) rfl rfl hl.1 rfl (lv_room (Nat.le_of_ble_eq_true rfl)) dL_law_822 ⟨(Nat.le_of_ble_eq_true rfl), (Nat.le_of_ble_eq_true rfl)⟩) hS (fun r_822 ct_1 H locs p_822 hP hS => ?_)
  have hR2 := RFAt.keep hR (fun j h1 => p_822.2.2 j (by omega))
  obtain ⟨f9, h9⟩ := RFAt.obj hR2
  refine lv_aload_n hx hb dL_law_825 rfl (lv_at hl 2 rfl) ?_
  refine lv_aload_n hx hb dL_law_826 rfl (lv_at hl 0 rfl) ?_
  refine lv_iload_n hx hb dL_law_827 rfl (lv_at hl 3 rfl) ?_
  refine lv_iconst (v := (nI 1)) hx hb dL_law_828 (by decide) ?_
  refine lv_iadd hx hb dL_law_829 ?_
  refine fs_vi (y := nI (i + 1)) (nI_add _ _) ?_
  refine va_sld hx hb hX hbl hbA hS (vp_in_nI (by omega) (by omega)) dL_law_830 ?_
  refine fs_i (va_runV (As := [.int (xs (nI (i + 1)).toNatClampNeg)]) (rest := [.int r_822]) E.1 (c_X8_restore l g 249 ct_1 σ k hs u1 s1 u2 s2 t len (by omega) hG hR2 hO.g1 hO.g2 (xs (nI (i + 1)).toNatClampNeg)) (lk_RL_121 E.1.2.2.2.2 ⟨Nat.le_of_ble_eq_true rfl, Nat.le_of_ble_eq_true rfl⟩) (fpreV E hP hS fc8 h9 (by omega)) rfl rfl hl.1 rfl (lv_room (Nat.le_of_ble_eq_true rfl)) dL_law_831 ⟨(Nat.le_of_ble_eq_true rfl), (Nat.le_of_ble_eq_true rfl)⟩) hS (fun r_831 ct_2 H locs p_831 hP hS => ?_)
  have hO2 := OGAt.keep p_822.2.1 (fun j h1 => p_831.2.2 j (by omega))
  have hJ2 : lw_J g ct_2 := ⟨_, _, _, _, _, _, _, _, _, hO2, p_831.2.1⟩
  refine lv_icmp_eq (tgt := 839) hx hb dL_law_834 (by decide) (fun c_834 => ?_) (fun c_834 => ?_)
  · exact K _ _ _ _ hJ2 hP hS hl
  · exact absurd (p_822.1.trans p_831.1.symm) c_834
end LWC
