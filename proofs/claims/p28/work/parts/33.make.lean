/-! making cells -/
theorem fP_push {g : fG} {N : Nat} {ct : Nat → va_E} {H H1 : Heap} {e : va_E} (hP : fP g N ct H) (z : H1.size = H.size + 1) (o : ∀ q, q < H.size → H1[q]? = H[q]?) (he : va_at g.1 vwCl (fa g N, e) H1) : fP g (N + 1) (fu ct N e) H1 := by
  refine ⟨by rw [z, hP.1]; unfold fa; omega, fun j hj => ?_⟩
  by_cases h : j = N
  · subst h; rw [fu_eq]; exact he
  · rw [fu_ne h]; exact (hP.2 j (by omega)).kept (o _ (by rw [hP.1]; unfold fa; omega))
theorem fS_push {g : fG} {s : State} {H H1 : Heap} {locs : List Loc} (hS : va_S (fB g) s.heap H locs) (z : H1.size = H.size + 1) (o : ∀ q, q < H.size → H1[q]? = H[q]?) : va_S (fB g) s.heap H1 locs :=
  ⟨Nat.le_trans hS.1 (by omega), fun x h1 h2 => (o x (Nat.lt_of_lt_of_le h1 hS.1)).trans (hS.2.1 x h1 h2), hS.2.2⟩
section FN
variable {p : Program} {l : Launch} {e : Env} {R : Room} {s : State} {m : MethodId} {args : Array Value} {below : List Frame} {meth : Method} {c : Code} {H : Heap} {locs : List Loc} {cells slots : Nat} {Q : State → Prop}
variable {cc : ByteArray} {pc nL : Nat} {ls : Array Slot} {rest : List Value} {g : fG} {ct : Nat → va_E} {own : String}
theorem fs_new (E : fE p m c cc nL s args own g) {N : Nat} (hP : fP g N ct H) (hS : va_S (fB g) s.heap H locs) {C : String} {T : u_T} {M ci idx : Nat} {ty : Nat → FieldType} {fs : List Value} (hC : fCls ci C T M ty) (hlink : Cond.classLink own idx C ∈ wsL_law) (hinst : Cond.instantiable C M ∈ wsL_law) (hini : Cond.initialized C ∈ wsL_law) (hfs : ∀ j, j < M → defaultValue (ty j) = vp_V fs j) (hcells : cells + 1 ≤ R.cells) (hslots : slots + M ≤ R.slots) (hdg : decode cc pc = .ok (.new idx, 3))
    (kk : ∀ (ct1 : Nat → va_E) (H1 : Heap), ct1 = fu ct N (.inr (ci, fs)) → fP g (N + 1) ct1 H1 → va_S (fB g) s.heap H1 locs → W p l e R s m args below meth c H1 locs (cells + 1) (slots + M) Q (F0 m (pc + 3) ls (.ref (fa g N) :: rest))) : W p l e R s m args below meth c H locs cells slots Q (F0 m pc ls rest) := by
  obtain ⟨hcl, hin, hty, hnm⟩ := hC
  have hKn := E.2.1.1.1 ci _ hcl
  refine W.newcK E.1.1 E.1.2.1 E.1.2.2.2.1 (E.1.2.2.2.2 _ hlink) (E.1.2.2.2.2 _ hinst) (E.1.2.2.2.2 _ hini) rfl hdg hcells hslots hKn.2.1 rfl fun H1 kC hkC e1 z1 o1 => ?_
  have k2 := kk _ H1 rfl (fP_push hP z1 o1 (by rw [← hP.1]; exact ⟨_, hcl, (u_born ty E.1.2.2.2.2 hin hKn hkC e1 hty).to hfs⟩)) (fS_push hS z1 o1)
  rw [← hP.1] at k2
  exact k2
theorem fs_newaI (E : fE p m c cc nL s args own g) {N : Nat} (hP : fP g N ct H) (hS : va_S (fB g) s.heap H locs) {n : Int32} {k : Nat} (harr : Cond.arrayClass .int ∈ wsL_law) (hn : ¬ n < 0) (hN : n.toNatClampNeg = k) (hbytes : k * 4 ≤ 536870912) (hcells : cells + 1 ≤ R.cells) (hslots : slots + k ≤ R.slots) (hdg : decode cc pc = .ok (.newarray .int, 2))
    (kk : ∀ (ct1 : Nat → va_E) (H1 : Heap), ct1 = fu ct N (.inl (fcI g, k, .inl (fun _ => 0))) → fP g (N + 1) ct1 H1 → va_S (fB g) s.heap H1 locs → W p l e R s m args below meth c H1 locs (cells + 1) (slots + k) Q (F0 m (pc + 2) ls (.ref (fa g N) :: rest))) : W p l e R s m args below meth c H locs cells slots Q (F0 m pc ls (.int n :: rest)) := by
  refine va_newaK (atype := .int) E.1.1 E.1.2.1 (E.1.2.2.2.2 _ harr) rfl hdg rfl hn hN hbytes hcells hslots rfl fun H1 cA e1 z1 o1 hAr hNm => ?_
  have e2 : cA = fcI g := Option.some.inj (hNm.symm.trans (E.2.1.1.2 0 (fcI g, .int) rfl).2)
  subst e2
  have k2 := kk _ H1 rfl (fP_push hP z1 o1 (by rw [← hP.1]; exact e1)) (fS_push hS z1 o1)
  rw [← hP.1] at k2
  exact k2
theorem fs_newaC (E : fE p m c cc nL s args own g) {N : Nat} (hP : fP g N ct H) (hS : va_S (fB g) s.heap H locs) {n : Int32} {k : Nat} (harr : Cond.arrayClass .char ∈ wsL_law) (hn : ¬ n < 0) (hN : n.toNatClampNeg = k) (hbytes : k * 2 ≤ 536870912) (hcells : cells + 1 ≤ R.cells) (hslots : slots + k ≤ R.slots) (hdg : decode cc pc = .ok (.newarray .char, 2))
    (kk : ∀ (ct1 : Nat → va_E) (H1 : Heap), ct1 = fu ct N (.inl (fcC g, k, .inl (fun _ => 0))) → fP g (N + 1) ct1 H1 → va_S (fB g) s.heap H1 locs → W p l e R s m args below meth c H1 locs (cells + 1) (slots + k) Q (F0 m (pc + 2) ls (.ref (fa g N) :: rest))) : W p l e R s m args below meth c H locs cells slots Q (F0 m pc ls (.int n :: rest)) := by
  refine va_newaK (atype := .char) E.1.1 E.1.2.1 (E.1.2.2.2.2 _ harr) rfl hdg rfl hn hN hbytes hcells hslots rfl fun H1 cA e1 z1 o1 hAr hNm => ?_
  have e2 : cA = fcC g := Option.some.inj (hNm.symm.trans (E.2.1.1.2 1 (fcC g, .char) rfl).2)
  subst e2
  have k2 := kk _ H1 rfl (fP_push hP z1 o1 (by rw [← hP.1]; exact e1)) (fS_push hS z1 o1)
  rw [← hP.1] at k2
  exact k2
theorem fs_anewX (E : fE p m c cc nL s args own g) {N : Nat} (hP : fP g N ct H) (hS : va_S (fB g) s.heap H locs) {n : Int32} {k q idx : Nat} {C : String} {cX : ClassId} (ht : (fT g)[q]? = some (cX, .object C)) (hover : va_AO C s) (hlink : Cond.classLink own idx C ∈ wsL_law) (hn : ¬ n < 0) (hN : n.toNatClampNeg = k) (hbytes : k * 4 ≤ 536870912) (hcells : cells + 1 ≤ R.cells) (hslots : slots + k ≤ R.slots) (hdg : decode cc pc = .ok (.anewarray idx, 3))
    (kk : ∀ (ct1 : Nat → va_E) (H1 : Heap), ct1 = fu ct N (.inl (cX, k, .inr (.inr (.inr (.inr (fun _ => none)))))) → fP g (N + 1) ct1 H1 → va_S (fB g) s.heap H1 locs → W p l e R s m args below meth c H1 locs (cells + 1) (slots + k) Q (F0 m (pc + 3) ls (.ref (fa g N) :: rest))) : W p l e R s m args below meth c H locs cells slots Q (F0 m pc ls (.int n :: rest)) := by
  subst hN
  refine W.anew E.1.1 E.1.2.1 E.1.2.2.2.1 (E.1.2.2.2.2 _ hlink) (va_AO.use hover) rfl hdg rfl hn hbytes hcells hslots fun cA kA comp f1 f2 f3 f4 => ?_
  generalize hH1 : H.push ({ cls := cA, slots := Array.replicate n.toNatClampNeg .null, vm := .none } : Cell) = H1
  have z1 : H1.size = H.size + 1 := by rw [← hH1, Array.size_push]
  have e1 : H1[H.size]? = some (arrV cA n.toNatClampNeg (fun _ => .null)) := by rw [← hH1, Array.getElem?_push_size, ← arrV_new]
  have o1 : ∀ q : Nat, q < H.size → H1[q]? = H[q]? := fun q hq => by rw [← hH1, Array.getElem?_push, if_neg (Nat.ne_of_lt hq)]
  obtain ⟨_, _, _, _, _, g4⟩ := (E.2.1.1.2 q (cX, .object C) ht).2
  have e2 : cA = cX := Option.some.inj (f1.symm.trans g4)
  subst e2
  have k2 := kk _ H1 rfl (fP_push hP z1 o1 (by rw [← hP.1]; exact e1)) (fS_push hS z1 o1)
  rw [← hP.1] at k2
  exact k2
theorem fs_aastX (E : fE p m c cc nL s args own g) {N : Nat} (hP : fP g N ct H) (hS : va_S (fB g) s.heap H locs) {k v n t0 ci : Nat} {cX : ClassId} {r : vw_C} {vs : List Value} {f : Nat → Option Nat} {i : Int32} (ht : (fT g)[t0]? = some (cX, .object r.1)) (hcl : vwCl[ci]? = some r) (hc : ct k = .inl (cX, n, .inr (.inr (.inr (.inr f))))) (hk : k < N) (hv : ct v = .inr (ci, vs)) (hkv : v < N) (hin : vp_in i n) (hdg : decode cc pc = .ok (.aastore, 1))
    (kk : ∀ (ct1 : Nat → va_E) (H1 : Heap) (locs1 : List Loc), ct1 = fu ct k (.inl (cX, n, .inr (.inr (.inr (.inr (va_up f i.toNatClampNeg (some (fa g v)))))))) → fP g N ct1 H1 → va_S (fB g) s.heap H1 locs1 → W p l e R s m args below meth c H1 locs1 cells slots Q (F0 m (pc + 1) ls rest)) : W p l e R s m args below meth c H locs cells slots Q (F0 m pc ls (.ref (fa g v) :: .int i :: .ref (fa g k) :: rest)) := by
  have hlt : i.toNatClampNeg < n := Nat.not_le.mp fun q => hin (Or.inr q)
  have h0 : ¬ i < 0 := fun q => hin (Or.inl q)
  have ha : va_at g.1 vwCl (fa g k, .inl (cX, n, .inr (.inr (.inr (.inr f))))) H := by rw [← hc]; exact hP.2 k hk
  have hv2 : va_at g.1 vwCl (fa g v, .inr (ci, vs)) H := by rw [← hv]; exact hP.2 v hkv
  obtain ⟨r', hr', cellV, g1, g2, g3, -⟩ := hv2
  have hcls := (E.2.1.1.1 ci r hcl).2
  obtain ⟨kA, comp, k1, k2, k3, -⟩ := (E.2.1.1.2 t0 _ ht).2
  have hcomp : comp = g.1.1 ci := Option.some.inj (k3.symm.trans hcls.1)
  subst hcomp
  obtain ⟨kC, hkC, -⟩ := hcls.2
  refine W.aast E.1.1 E.1.2.1 ha (fun q h => by cases h) (fun h => by cases h) k1 k2 rfl hkC ⟨h0, by show _ < (arrV _ _ _).slots.size; rw [arrV_size]; exact hlt⟩ g1 (fun q h => by rw [g3] at h; cases h) (by rw [g2]; exact hkC) (by rw [g2]; exact va_assign hcls) rfl rfl hdg fun H1 e z oq => ?_
  refine kk _ H1 _ rfl (fP_set hP z ?_ oq) (hS.put z oq (fB_in g k))
  show H1[fa g k]? = some (vp_cell _ _)
  rw [e]
  rw [vp_cell_q, vp_cell_q, arrV_store]
  congr 2
  funext q
  by_cases hq : q = i.toNatClampNeg
  · subst hq
    simp [updV, va_up, va_rf]
  · simp [updV, va_up, hq]
variable {head : Nat}
theorem fs_indG {St : Type} (Nf cf sf : St → Nat) (I : St → (Nat → va_E) → Array Slot → Prop) (mu : St → Nat)
    (step : ∀ (st : St) (ct : Nat → va_E) (H : Heap) (ls : Array Slot) (locs : List Loc), I st ct ls → fP g (Nf st) ct H → va_S (fB g) s.heap H locs → (∀ (st2 : St) (ct2 : Nat → va_E) (H2 : Heap) (ls2 : Array Slot) (locs2 : List Loc) (N2 c2 s2 : Nat), N2 = Nf st2 → c2 = cf st2 → s2 = sf st2 → mu st2 < mu st → I st2 ct2 ls2 → fP g N2 ct2 H2 → va_S (fB g) s.heap H2 locs2 → W p l e R s m args below meth c H2 locs2 c2 s2 Q (F0 m head ls2 [])) → W p l e R s m args below meth c H locs (cf st) (sf st) Q (F0 m head ls [])) :
    ∀ (st : St) (ct : Nat → va_E) (H : Heap) (ls : Array Slot) (locs : List Loc) (N2 c2 s2 : Nat), N2 = Nf st → c2 = cf st → s2 = sf st → I st ct ls → fP g N2 ct H → va_S (fB g) s.heap H locs → W p l e R s m args below meth c H locs c2 s2 Q (F0 m head ls []) := by
  have key : ∀ (n : Nat) (st : St) (ct : Nat → va_E) (H : Heap) (ls : Array Slot) (locs : List Loc), mu st < n → I st ct ls → fP g (Nf st) ct H → va_S (fB g) s.heap H locs → W p l e R s m args below meth c H locs (cf st) (sf st) Q (F0 m head ls []) := by
    intro n
    induction n with
    | zero => intro st ct H ls locs h; exact absurd h (Nat.not_lt_zero _)
    | succ n ih => exact fun st ct H ls locs h hI hP hS => step st ct H ls locs hI hP hS (fun st2 ct2 H2 ls2 locs2 N2 c2 s2 e1 e2 e3 h2 hI2 hP2 hS2 => by subst e1 e2 e3; exact ih st2 ct2 H2 ls2 locs2 (by omega) hI2 hP2 hS2)
  exact fun st ct H ls locs N2 c2 s2 e1 e2 e3 hI hP hS => by subst e1 e2 e3; exact key (mu st + 1) st ct H ls locs (by omega) hI hP hS
end FN

theorem fSame.of_eq {lo hi : Nat} {ct ct1 : Nat → va_E} (h : ct1 = ct) : fSame lo hi ct ct1 := fun j _ => by rw [h]
/-- a house being made -/
def HouseMk (g : fG) (ct : Nat → va_E) (h i : Nat) : Prop :=
  ct h = .inr (1, [.int 0, .int 0, .int 0, .ref (fa g (h + 1)), .ref (fa g (h + 2)), .ref (fa g (h + 3)), .ref (fa g (h + 4))]) ∧ ct (h + 1) = .inl (fcI g, 6, .inl (fun _ => 0)) ∧ ct (h + 2) = .inl (fcI g, 6, .inl (fun _ => 0)) ∧ ct (h + 3) = .inl (fcI g, 6, .inl (fun _ => 0)) ∧
  ∃ f : Nat → Option Nat, ct (h + 4) = .inl (fcR g, 20, .inr (.inr (.inr (.inr f)))) ∧ (∀ r, r < i → f r = some (fa g (h + 5 + r))) ∧ ∀ r, r < i → ct (h + 5 + r) = .inr (3, [.int 0, .int 0, .int 0, .int 0, .int 0])
theorem HouseMk.sh {g : fG} {ct : Nat → va_E} {h : Nat} (H : HouseMk g ct h 20) : HouseSh g ct h := by
  obtain ⟨a, b, c, d, f, e, e2, e3⟩ := H
  exact ⟨⟨_, _, _, a⟩, ⟨_, b⟩, ⟨_, c⟩, ⟨_, d⟩, ⟨f, e, e2⟩, fun r hr => ⟨_, _, _, _, _, e3 r hr⟩⟩
theorem vup_eq {α : Type} {f : Nat → α} {k : Nat} {v : α} : va_up f k v k = v := if_pos rfl
theorem vup_ne {α : Type} {f : Nat → α} {k j : Nat} {v : α} (h : j ≠ k) : va_up f k v j = f j := if_neg h
theorem HouseMk.step {g : fG} {ct ct1 : Nat → va_E} {h i : Nat} {f : Nat → Option Nat} (hi : i < 20) (H : HouseMk g ct h i) (hs : fSame (h + 4) (h + 6 + i) ct ct1) (hf : ct (h + 4) = .inl (fcR g, 20, .inr (.inr (.inr (.inr f))))) (h4 : ct1 (h + 4) = .inl (fcR g, 20, .inr (.inr (.inr (.inr (va_up f i (some (fa g (h + 5 + i)))))))))
    (h5 : ct1 (h + 5 + i) = .inr (3, [.int 0, .int 0, .int 0, .int 0, .int 0])) (hk : ∀ r, r < i → ct1 (h + 5 + r) = ct (h + 5 + r)) : HouseMk g ct1 h (i + 1) := by
  obtain ⟨a, b, c, d, f2, e, e2, e3⟩ := H
  have ef : f2 = f := by rw [e] at hf; injection hf with a; injection a with _ a; injection a with _ a; injection a with a; injection a with a; injection a with a; injection a with a
  subst ef
  refine ⟨(hs _ (by omega)).trans a, (hs _ (by omega)).trans b, (hs _ (by omega)).trans c, (hs _ (by omega)).trans d, _, h4, fun r hr => ?_, fun r hr => ?_⟩
  · by_cases z : r = i
    · subst z; exact vup_eq
    · rw [vup_ne z]; exact e2 r (by omega)
  · by_cases z : r = i
    · subst z; exact h5
    · rw [hk r (by omega)]; exact e3 r (by omega)

set_option maxRecDepth 100000 in
set_option maxHeartbeats 4000000 in
theorem c_X3_init (l : Launch) (g : fG) (N : Nat) (ct : Nat → va_E) (k : Nat) : Met l yX3_init (wsU yX3_init cX3_init 1 none) rX3_init (fPre g N ct [.ref (fa g k)]) (fQv g N (fun ct1 => ct1 = ct)) 0 0 (fB g) := by
  refine fs_start (own := RX3) (lv0 := [(0, .ref (fa g k))]) (by decide) rfl (Nat.le_of_ble_eq_true rfl) rfl ?_
  intro p e s m args below meth c ls E hr hlk hnm hP hl hS
  have hx := E.1.1
  have hb := E.1.2.1
  refine lv_aload_n hx hb dX3_init_0 rfl (lv_at hl 0 rfl) ?_
  refine W.objInit hx hb E.1.2.2.2.1 (E.1.2.2.2.2 _ (wm wl_2 (i := 20) rfl)) (E.1.2.2.2.2 _ (wm wl_1 (i := 8) rfl)) (E.1.2.2.2.2 _ (wm wl_1 (i := 9) rfl)) rfl (by rw [E.1.2.2.1]; exact hl.1) rfl dX3_init_1 (Nat.le_of_ble_eq_true rfl) (Nat.le_of_ble_eq_true rfl) ?_
  refine W.eq (g2 := F0 m 4 ls []) rfl ?_
  refine fs_vret E hr hlk hP hS dX3_init_4 ?_
  rfl

set_option maxRecDepth 100000 in
set_option maxHeartbeats 4000000 in
theorem c_X1_init (l : Launch) (g : fG) (N : Nat) (ct : Nat → va_E) (h : Nat) (hN : N = h + 1) (hc : ct h = .inr (1, [.int 0, .int 0, .int 0, .null, .null, .null, .null])) : Met l yX1_init (wsU yX1_init cX1_init 2 none) rX1_init (fPre g N ct [.ref (fa g h)]) (fQv g (h + 25) (fun ct1 => HouseSh g ct1 h ∧ fSame h (h + 25) ct ct1)) 24 138 (fB g) := by
  refine fs_start (own := RX1) (lv0 := [(0, .ref (fa g h))]) (by decide) rfl (Nat.le_of_ble_eq_true rfl) rfl ?_
  intro p e s m args below meth c ls E hr hlk hnm hP hl hS
  have hx := E.1.1
  have hb := E.1.2.1
  subst hN
  refine lv_aload_n hx hb dX1_init_0 rfl (lv_at hl 0 rfl) ?_
  refine W.objInit hx hb E.1.2.2.2.1 (E.1.2.2.2.2 _ (wm wl_2 (i := 10) rfl)) (E.1.2.2.2.2 _ (wm wl_1 (i := 8) rfl)) (E.1.2.2.2.2 _ (wm wl_1 (i := 9) rfl)) rfl (by rw [E.1.2.2.1]; exact hl.1) rfl dX1_init_1 (Nat.le_of_ble_eq_true rfl) (Nat.le_of_ble_eq_true rfl) ?_
  refine W.eq (g2 := F0 m 4 ls []) rfl ?_
  refine lv_aload_n hx hb dX1_init_4 rfl (lv_at hl 0 rfl) ?_
  refine lv_bipush (v := (nI 6)) hx hb dX1_init_5 (by decide) ?_
  refine fs_newaI E (N := (h + 1)) hP hS (k := 6) (wm wl_1 (i := 3) rfl) (by decide) (by decide) (by decide) (Nat.le_of_ble_eq_true rfl) (Nat.le_of_ble_eq_true rfl) dX1_init_7 (fun ct_1 H q_2 hP hS => ?_)
  have h_3 : ct_1 h = .inr (1, [.int 0, .int 0, .int 0, .null, .null, .null, .null]) := by rw [q_2]; exact (fu_ne (by omega)).trans hc
  have h_4 : ct_1 (h + 1) = .inl (fcI g, 6, .inl (fun _ => 0)) := by rw [q_2]; exact fu_eq _ _ _
  refine fs_putF E hnm hP hS (k := h) 3 fc1 h_3 (by omega) (by decide) (wm wl_2 (i := 11) rfl) rfl rfl rfl rfl rfl (Nat.le_of_ble_eq_true rfl) dX1_init_9 (fun ct_5 H locs q_6 hP hS => ?_)
  have h_7 : ct_5 h = .inr (1, [.int 0, .int 0, .int 0, .ref (fa g (h + 1)), .null, .null, .null]) := by rw [q_6]; exact fu_eq _ _ _
  have h_8 : ct_5 (h + 1) = .inl (fcI g, 6, .inl (fun _ => 0)) := by rw [q_6]; exact (fu_ne (by omega)).trans h_4
  refine lv_aload_n hx hb dX1_init_12 rfl (lv_at hl 0 rfl) ?_
  refine lv_bipush (v := (nI 6)) hx hb dX1_init_13 (by decide) ?_
  refine fs_newaI E (N := (h + 2)) hP hS (k := 6) (wm wl_1 (i := 3) rfl) (by decide) (by decide) (by decide) (Nat.le_of_ble_eq_true rfl) (Nat.le_of_ble_eq_true rfl) dX1_init_15 (fun ct_9 H q_10 hP hS => ?_)
  have h_11 : ct_9 h = .inr (1, [.int 0, .int 0, .int 0, .ref (fa g (h + 1)), .null, .null, .null]) := by rw [q_10]; exact (fu_ne (by omega)).trans h_7
  have h_12 : ct_9 (h + 1) = .inl (fcI g, 6, .inl (fun _ => 0)) := by rw [q_10]; exact (fu_ne (by omega)).trans h_8
  have h_13 : ct_9 (h + 2) = .inl (fcI g, 6, .inl (fun _ => 0)) := by rw [q_10]; exact fu_eq _ _ _
  refine fs_putF E hnm hP hS (k := h) 4 fc1 h_11 (by omega) (by decide) (wm wl_2 (i := 12) rfl) rfl rfl rfl rfl rfl (Nat.le_of_ble_eq_true rfl) dX1_init_17 (fun ct_14 H locs q_15 hP hS => ?_)
  have h_16 : ct_14 h = .inr (1, [.int 0, .int 0, .int 0, .ref (fa g (h + 1)), .ref (fa g (h + 2)), .null, .null]) := by rw [q_15]; exact fu_eq _ _ _
  have h_17 : ct_14 (h + 1) = .inl (fcI g, 6, .inl (fun _ => 0)) := by rw [q_15]; exact (fu_ne (by omega)).trans h_12
  have h_18 : ct_14 (h + 2) = .inl (fcI g, 6, .inl (fun _ => 0)) := by rw [q_15]; exact (fu_ne (by omega)).trans h_13
  refine lv_aload_n hx hb dX1_init_20 rfl (lv_at hl 0 rfl) ?_
  refine lv_bipush (v := (nI 6)) hx hb dX1_init_21 (by decide) ?_
  refine fs_newaI E (N := (h + 3)) hP hS (k := 6) (wm wl_1 (i := 3) rfl) (by decide) (by decide) (by decide) (Nat.le_of_ble_eq_true rfl) (Nat.le_of_ble_eq_true rfl) dX1_init_23 (fun ct_19 H q_20 hP hS => ?_)
  have h_21 : ct_19 h = .inr (1, [.int 0, .int 0, .int 0, .ref (fa g (h + 1)), .ref (fa g (h + 2)), .null, .null]) := by rw [q_20]; exact (fu_ne (by omega)).trans h_16
  have h_22 : ct_19 (h + 1) = .inl (fcI g, 6, .inl (fun _ => 0)) := by rw [q_20]; exact (fu_ne (by omega)).trans h_17
  have h_23 : ct_19 (h + 2) = .inl (fcI g, 6, .inl (fun _ => 0)) := by rw [q_20]; exact (fu_ne (by omega)).trans h_18
  have h_24 : ct_19 (h + 3) = .inl (fcI g, 6, .inl (fun _ => 0)) := by rw [q_20]; exact fu_eq _ _ _
  refine fs_putF E hnm hP hS (k := h) 5 fc1 h_21 (by omega) (by decide) (wm wl_2 (i := 13) rfl) rfl rfl rfl rfl rfl (Nat.le_of_ble_eq_true rfl) dX1_init_25 (fun ct_25 H locs q_26 hP hS => ?_)
  have h_27 : ct_25 h = .inr (1, [.int 0, .int 0, .int 0, .ref (fa g (h + 1)), .ref (fa g (h + 2)), .ref (fa g (h + 3)), .null]) := by rw [q_26]; exact fu_eq _ _ _
  have h_28 : ct_25 (h + 1) = .inl (fcI g, 6, .inl (fun _ => 0)) := by rw [q_26]; exact (fu_ne (by omega)).trans h_22
  have h_29 : ct_25 (h + 2) = .inl (fcI g, 6, .inl (fun _ => 0)) := by rw [q_26]; exact (fu_ne (by omega)).trans h_23
  have h_30 : ct_25 (h + 3) = .inl (fcI g, 6, .inl (fun _ => 0)) := by rw [q_26]; exact (fu_ne (by omega)).trans h_24
  refine lv_aload_n hx hb dX1_init_28 rfl (lv_at hl 0 rfl) ?_
  refine lv_bipush (v := (nI 20)) hx hb dX1_init_29 (by decide) ?_
  refine fs_anewX E (N := (h + 4)) hP hS (k := 20) (q := 2) rfl E.2.1.2.2.1 (wm wl_2 (i := 14) rfl) (by decide) (by decide) (by decide) (Nat.le_of_ble_eq_true rfl) (Nat.le_of_ble_eq_true rfl) dX1_init_31 (fun ct_31 H q_32 hP hS => ?_)
  have h_33 : ct_31 h = .inr (1, [.int 0, .int 0, .int 0, .ref (fa g (h + 1)), .ref (fa g (h + 2)), .ref (fa g (h + 3)), .null]) := by rw [q_32]; exact (fu_ne (by omega)).trans h_27
  have h_34 : ct_31 (h + 1) = .inl (fcI g, 6, .inl (fun _ => 0)) := by rw [q_32]; exact (fu_ne (by omega)).trans h_28
  have h_35 : ct_31 (h + 2) = .inl (fcI g, 6, .inl (fun _ => 0)) := by rw [q_32]; exact (fu_ne (by omega)).trans h_29
  have h_36 : ct_31 (h + 3) = .inl (fcI g, 6, .inl (fun _ => 0)) := by rw [q_32]; exact (fu_ne (by omega)).trans h_30
  have h_37 : ct_31 (h + 4) = .inl (fcR g, 20, .inr (.inr (.inr (.inr (fun _ => none))))) := by rw [q_32]; exact fu_eq _ _ _
  refine fs_putF E hnm hP hS (k := h) 6 fc1 h_33 (by omega) (by decide) (wm wl_2 (i := 15) rfl) rfl rfl rfl rfl rfl (Nat.le_of_ble_eq_true rfl) dX1_init_34 (fun ct_38 H locs q_39 hP hS => ?_)
  have h_40 : ct_38 h = .inr (1, [.int 0, .int 0, .int 0, .ref (fa g (h + 1)), .ref (fa g (h + 2)), .ref (fa g (h + 3)), .ref (fa g (h + 4))]) := by rw [q_39]; exact fu_eq _ _ _
  have h_41 : ct_38 (h + 1) = .inl (fcI g, 6, .inl (fun _ => 0)) := by rw [q_39]; exact (fu_ne (by omega)).trans h_34
  have h_42 : ct_38 (h + 2) = .inl (fcI g, 6, .inl (fun _ => 0)) := by rw [q_39]; exact (fu_ne (by omega)).trans h_35
  have h_43 : ct_38 (h + 3) = .inl (fcI g, 6, .inl (fun _ => 0)) := by rw [q_39]; exact (fu_ne (by omega)).trans h_36
  have h_44 : ct_38 (h + 4) = .inl (fcR g, 20, .inr (.inr (.inr (.inr (fun _ => none))))) := by rw [q_39]; exact (fu_ne (by omega)).trans h_37
  refine lv_iconst (v := (nI 0)) hx hb dX1_init_37 (by decide) ?_
  refine lv_istore_n (lv' := [(1, .int (nI 0)), (0, .ref (fa g h))]) hx hb dX1_init_38 rfl hl (by decide) rfl (fun ls hl => ?_)
  refine fs_indG (g := g) (St := Nat) (fun i => h + 5 + i) (fun i => 4 + i) (fun i => 38 + 5 * i) (fun i ct1 ls => lv_has ls 2 [(0, .ref (fa g h)), (1, .int (nI i))] ∧ i ≤ 20 ∧ HouseMk g ct1 h i ∧ fSame h (h + 25) ct ct1) (fun i => 20 - i) ?_ 0 _ _ ls _ _ _ _ rfl rfl rfl ⟨lv_sub hl [1, 0] rfl, by omega, ⟨h_40, h_41, h_42, h_43, _, h_44, fun r hr => absurd hr (by omega), fun r hr => absurd hr (by omega)⟩, (fSame.ap (fSame.ap (fSame.ap (fSame.ap (fSame.ap (fSame.ap (fSame.ap (fSame.ap fSame.rf q_2 (by omega) (by omega)) q_6 (by omega) (by omega)) q_10 (by omega) (by omega)) q_15 (by omega) (by omega)) q_20 (by omega) (by omega)) q_26 (by omega) (by omega)) q_32 (by omega) (by omega)) q_39 (by omega) (by omega))⟩ hP hS
  clear hl hP hS
  intro st ct9 H ls locs hI hP hS ih
  obtain ⟨i, rfl⟩ : ∃ z, z = st := ⟨_, rfl⟩
  try dsimp only at hI hP ih
  obtain ⟨hl, hI⟩ := hI
  have hI1 := hI.1
  obtain ⟨hIh, -, -, -, f, hI4, -, -⟩ := id hI.2.1
  refine lv_iload_n hx hb dX1_init_39 rfl (lv_at hl 1 rfl) ?_
  refine lv_aload_n hx hb dX1_init_40 rfl (lv_at hl 0 rfl) ?_
  refine fs_get E hP (k := h) (v := .ref (fa g (h + 4))) 6 fc1 hIh (by omega) (by decide) (wm wl_2 (i := 15) rfl) rfl dX1_init_41 ?_
  refine fs_alenR E hP (k := (h + 4)) hI4 (by omega) dX1_init_44 ?_
  refine lv_icmp_ge (tgt := 67) hx hb dX1_init_45 (by decide) (fun c_45 => ?_) (fun c_45 => ?_)
  · rw [nI_leI (by omega) (by omega)] at c_45
    obtain rfl : i = 20 := by omega
    refine fs_vret E hr hlk hP hS dX1_init_67 ?_
    exact ⟨hI.2.1.sh, hI.2.2⟩
  · rw [nI_leI (by omega) (by omega)] at c_45
    refine lv_aload_n hx hb dX1_init_48 rfl (lv_at hl 0 rfl) ?_
    refine fs_get E hP (k := h) (v := .ref (fa g (h + 4))) 6 fc1 hIh (by omega) (by decide) (wm wl_2 (i := 15) rfl) rfl dX1_init_49 ?_
    refine lv_iload_n hx hb dX1_init_52 rfl (lv_at hl 1 rfl) ?_
    refine fs_new E (N := (h + 5 + i)) (fs := [.int 0, .int 0, .int 0, .int 0, .int 0]) hP hS fc3 (wm wl_2 (i := 14) rfl) (wm wl_2 (i := 16) rfl) (wm wl_2 (i := 17) rfl) (by decide) (Nat.le_trans (by omega : _ ≤ 24) (Nat.le_refl _)) (Nat.le_trans (by omega : _ ≤ 138) (Nat.le_refl _)) dX1_init_53 (fun ct_45 H q_46 hP hS => ?_)
    have h_47 : ct_45 h = .inr (1, [.int 0, .int 0, .int 0, .ref (fa g (h + 1)), .ref (fa g (h + 2)), .ref (fa g (h + 3)), .ref (fa g (h + 4))]) := by rw [q_46]; exact (fu_ne (by omega)).trans hIh
    have h_48 : ct_45 (h + 4) = .inl (fcR g, 20, .inr (.inr (.inr (.inr f)))) := by rw [q_46]; exact (fu_ne (by omega)).trans hI4
    have h_49 : ct_45 (h + 5 + i) = .inr (3, [.int 0, .int 0, .int 0, .int 0, .int 0]) := by rw [q_46]; exact fu_eq _ _ _
    refine lv_dup hx hb dX1_init_56 rfl ?_
    refine fs_v (va_runIN (As := []) (rest := [.ref (fa g (h + 5 + i)), .int (nI i), .ref (fa g (h + 4))]) E.1 (c_X3_init l g ((h + 5 + i) + 1) ct_45 (h + 5 + i)) (lk_RX1_27 E.1.2.2.2.2 (E.2.1.2.1 _ (List.mem_of_getElem? (i := 23) rfl)) ⟨Nat.le_of_ble_eq_true rfl, Nat.le_of_ble_eq_true rfl⟩) (fpreS E hP hS) rfl rfl hl.1 rfl (lv_room (Nat.le_of_ble_eq_true rfl)) dX1_init_57 ⟨(Nat.le_trans (by omega : _ ≤ 24) (Nat.le_refl _)), (Nat.le_trans (by omega : _ ≤ 138) (Nat.le_refl _))⟩) hS (fun ct_50 H locs p_57 hP hS => ?_)
    have h_51 : ct_50 h = .inr (1, [.int 0, .int 0, .int 0, .ref (fa g (h + 1)), .ref (fa g (h + 2)), .ref (fa g (h + 3)), .ref (fa g (h + 4))]) := by rw [p_57]; exact h_47
    have h_52 : ct_50 (h + 4) = .inl (fcR g, 20, .inr (.inr (.inr (.inr f)))) := by rw [p_57]; exact h_48
    have h_53 : ct_50 (h + 5 + i) = .inr (3, [.int 0, .int 0, .int 0, .int 0, .int 0]) := by rw [p_57]; exact h_49
    refine fs_aastX E hP hS (k := (h + 4)) (v := (h + 5 + i)) (t0 := 2) (ci := 3) rfl rfl h_52 (by omega) h_53 (by omega) (vp_in_nI (by omega) (by omega)) dX1_init_60 (fun ct_54 H locs q_55 hP hS => ?_)
    rw [nI_clamp (by omega)] at q_55
    have h_56 : ct_54 h = .inr (1, [.int 0, .int 0, .int 0, .ref (fa g (h + 1)), .ref (fa g (h + 2)), .ref (fa g (h + 3)), .ref (fa g (h + 4))]) := by rw [q_55]; exact (fu_ne (by omega)).trans h_51
    have h_57 : ct_54 (h + 4) = .inl (fcR g, 20, .inr (.inr (.inr (.inr (va_up f i (some (fa g (h + 5 + i)))))))) := by rw [q_55]; exact fu_eq _ _ _
    have h_58 : ct_54 (h + 5 + i) = .inr (3, [.int 0, .int 0, .int 0, .int 0, .int 0]) := by rw [q_55]; exact (fu_ne (by omega)).trans h_53
    refine lv_iinc (v := (nI (i + 1))) (lv' := [(1, .int (nI (i + 1))), (0, .ref (fa g h))]) hx hb dX1_init_61 hl (k := 1) rfl (nI_1 _) (by decide) rfl (fun ls hl => ?_)
    refine lv_goto (tgt := 39) hx hb dX1_init_64 (by decide) ?_
    exact ih (i + 1) _ _ ls _ _ _ _ (by (try dsimp only); omega) (by (try dsimp only); omega) (by (try dsimp only); omega) (by (try dsimp only); omega) ⟨lv_sub hl [1, 0] rfl, by omega, HouseMk.step (by omega) hI.2.1 (fSame.ap (fSame.tr (fSame.ap fSame.rf q_46 (by omega) (by omega)) (fSame.of_eq p_57)) q_55 (by omega) (by omega)) hI4 h_57 h_58 (fun r hr => by rw [q_55, fu_ne (by omega), p_57, q_46, fu_ne (by omega)]), fSame.tr2 hI.2.2 (show fSame (h + 4) (h + 6 + i) _ _ from (fSame.ap (fSame.tr (fSame.ap fSame.rf q_46 (by omega) (by omega)) (fSame.of_eq p_57)) q_55 (by omega) (by omega))) (by omega) (by omega)⟩ hP hS

set_option maxRecDepth 100000 in
set_option maxHeartbeats 4000000 in
theorem c_X6_init (l : Launch) (g : fG) (N : Nat) (ct : Nat → va_E) (h : Nat) (hN : N = h + 1) (hc : ct h = .inr (6, [.int 0, .null])) : Met l yX6_init (wsU yX6_init cX6_init 1 none) rX6_init (fPre g N ct [.ref (fa g h)]) (fQv g (h + 2) (fun ct1 => (ct1 h = .inr (6, [.int 0, .ref (fa g (h + 1))]) ∧ ct1 (h + 1) = .inl (fcI g, 6, .inl (fun _ => 0))) ∧ fSame h (h + 2) ct ct1)) 1 6 (fB g) := by
  refine fs_start (own := RX6) (lv0 := [(0, .ref (fa g h))]) (by decide) rfl (Nat.le_of_ble_eq_true rfl) rfl ?_
  intro p e s m args below meth c ls E hr hlk hnm hP hl hS
  have hx := E.1.1
  have hb := E.1.2.1
  subst hN
  refine lv_aload_n hx hb dX6_init_0 rfl (lv_at hl 0 rfl) ?_
  refine W.objInit hx hb E.1.2.2.2.1 (E.1.2.2.2.2 _ (wm wl_4 (i := 5) rfl)) (E.1.2.2.2.2 _ (wm wl_1 (i := 8) rfl)) (E.1.2.2.2.2 _ (wm wl_1 (i := 9) rfl)) rfl (by rw [E.1.2.2.1]; exact hl.1) rfl dX6_init_1 (Nat.le_of_ble_eq_true rfl) (Nat.le_of_ble_eq_true rfl) ?_
  refine W.eq (g2 := F0 m 4 ls []) rfl ?_
  refine lv_aload_n hx hb dX6_init_4 rfl (lv_at hl 0 rfl) ?_
  refine lv_bipush (v := (nI 6)) hx hb dX6_init_5 (by decide) ?_
  refine fs_newaI E (N := (h + 1)) hP hS (k := 6) (wm wl_1 (i := 3) rfl) (by decide) (by decide) (by decide) (Nat.le_of_ble_eq_true rfl) (Nat.le_of_ble_eq_true rfl) dX6_init_7 (fun ct_1 H q_2 hP hS => ?_)
  have h_3 : ct_1 h = .inr (6, [.int 0, .null]) := by rw [q_2]; exact (fu_ne (by omega)).trans hc
  have h_4 : ct_1 (h + 1) = .inl (fcI g, 6, .inl (fun _ => 0)) := by rw [q_2]; exact fu_eq _ _ _
  refine fs_putF E hnm hP hS (k := h) 1 fc6 h_3 (by omega) (by decide) (wm wl_4 (i := 6) rfl) rfl rfl rfl rfl rfl (Nat.le_of_ble_eq_true rfl) dX6_init_9 (fun ct_5 H locs q_6 hP hS => ?_)
  have h_7 : ct_5 h = .inr (6, [.int 0, .ref (fa g (h + 1))]) := by rw [q_6]; exact fu_eq _ _ _
  have h_8 : ct_5 (h + 1) = .inl (fcI g, 6, .inl (fun _ => 0)) := by rw [q_6]; exact (fu_ne (by omega)).trans h_4
  refine fs_vret E hr hlk hP hS dX6_init_12 ?_
  exact ⟨⟨h_7, h_8⟩, (fSame.ap (fSame.ap fSame.rf q_2 (by omega) (by omega)) q_6 (by omega) (by omega))⟩

set_option maxRecDepth 100000 in
set_option maxHeartbeats 4000000 in
theorem c_X2_init (l : Launch) (g : fG) (N : Nat) (ct : Nat → va_E) (h : Nat) (hN : N = h + 1) (hc : ct h = .inr (2, [.null, .int 0])) : Met l yX2_init (wsU yX2_init cX2_init 1 none) rX2_init (fPre g N ct [.ref (fa g h)]) (fQv g (h + 2) (fun ct1 => PadAt g ct1 h (fun _ => 0) 0 ∧ fSame h (h + 2) ct ct1)) 1 60 (fB g) := by
  refine fs_start (own := RX2) (lv0 := [(0, .ref (fa g h))]) (by decide) rfl (Nat.le_of_ble_eq_true rfl) rfl ?_
  intro p e s m args below meth c ls E hr hlk hnm hP hl hS
  have hx := E.1.1
  have hb := E.1.2.1
  subst hN
  refine lv_aload_n hx hb dX2_init_0 rfl (lv_at hl 0 rfl) ?_
  refine W.objInit hx hb E.1.2.2.2.1 (E.1.2.2.2.2 _ (wm wl_3 (i := 12) rfl)) (E.1.2.2.2.2 _ (wm wl_1 (i := 8) rfl)) (E.1.2.2.2.2 _ (wm wl_1 (i := 9) rfl)) rfl (by rw [E.1.2.2.1]; exact hl.1) rfl dX2_init_1 (Nat.le_of_ble_eq_true rfl) (Nat.le_of_ble_eq_true rfl) ?_
  refine W.eq (g2 := F0 m 4 ls []) rfl ?_
  refine lv_aload_n hx hb dX2_init_4 rfl (lv_at hl 0 rfl) ?_
  refine lv_bipush (v := (nI 60)) hx hb dX2_init_5 (by decide) ?_
  refine fs_newaC E (N := (h + 1)) hP hS (k := 60) (wm wl_3 (i := 13) rfl) (by decide) (by decide) (by decide) (Nat.le_of_ble_eq_true rfl) (Nat.le_of_ble_eq_true rfl) dX2_init_7 (fun ct_1 H q_2 hP hS => ?_)
  have h_3 : ct_1 h = .inr (2, [.null, .int 0]) := by rw [q_2]; exact (fu_ne (by omega)).trans hc
  have h_4 : ct_1 (h + 1) = .inl (fcC g, 60, .inl (fun _ => 0)) := by rw [q_2]; exact fu_eq _ _ _
  refine fs_putF E hnm hP hS (k := h) 0 fc2 h_3 (by omega) (by decide) (wm wl_3 (i := 14) rfl) rfl rfl rfl rfl rfl (Nat.le_of_ble_eq_true rfl) dX2_init_9 (fun ct_5 H locs q_6 hP hS => ?_)
  have h_7 : ct_5 h = .inr (2, [.ref (fa g (h + 1)), .int 0]) := by rw [q_6]; exact fu_eq _ _ _
  have h_8 : ct_5 (h + 1) = .inl (fcC g, 60, .inl (fun _ => 0)) := by rw [q_6]; exact (fu_ne (by omega)).trans h_4
  refine fs_vret E hr hlk hP hS dX2_init_12 ?_
  exact ⟨⟨h_7, ⟨_, h_8, fun i hi => absurd hi (by omega)⟩, by omega, fun i hi => absurd hi (by omega)⟩, (fSame.ap (fSame.ap fSame.rf q_2 (by omega) (by omega)) q_6 (by omega) (by omega))⟩

set_option maxRecDepth 100000 in
set_option maxHeartbeats 4000000 in
theorem c_X4_init (l : Launch) (g : fG) (N : Nat) (ct : Nat → va_E) (h : Nat) (hN : N = h + 1) (hc : ct h = .inr (4, [.null, .int 0])) : Met l yX4_init (wsU yX4_init cX4_init 1 none) rX4_init (fPre g N ct [.ref (fa g h)]) (fQv g (h + 26) (fun ct1 => (ct1 h = .inr (4, [.ref (fa g (h + 1)), .int 0]) ∧ HouseSh g ct1 (h + 1)) ∧ fSame h (h + 26) ct ct1)) 25 145 (fB g) := by
  refine fs_start (own := RX4) (lv0 := [(0, .ref (fa g h))]) (by decide) rfl (Nat.le_of_ble_eq_true rfl) rfl ?_
  intro p e s m args below meth c ls E hr hlk hnm hP hl hS
  have hx := E.1.1
  have hb := E.1.2.1
  subst hN
  refine lv_aload_n hx hb dX4_init_0 rfl (lv_at hl 0 rfl) ?_
  refine W.objInit hx hb E.1.2.2.2.1 (E.1.2.2.2.2 _ (wm wl_3 (i := 6) rfl)) (E.1.2.2.2.2 _ (wm wl_1 (i := 8) rfl)) (E.1.2.2.2.2 _ (wm wl_1 (i := 9) rfl)) rfl (by rw [E.1.2.2.1]; exact hl.1) rfl dX4_init_1 (Nat.le_of_ble_eq_true rfl) (Nat.le_of_ble_eq_true rfl) ?_
  refine W.eq (g2 := F0 m 4 ls []) rfl ?_
  refine lv_aload_n hx hb dX4_init_4 rfl (lv_at hl 0 rfl) ?_
  refine fs_new E (N := (h + 1)) (fs := [.int 0, .int 0, .int 0, .null, .null, .null, .null]) hP hS fc1 (wm wl_3 (i := 7) rfl) (wm wl_1 (i := 11) rfl) (wm wl_1 (i := 12) rfl) (by decide) (Nat.le_of_ble_eq_true rfl) (Nat.le_of_ble_eq_true rfl) dX4_init_5 (fun ct_1 H q_2 hP hS => ?_)
  have h_3 : ct_1 h = .inr (4, [.null, .int 0]) := by rw [q_2]; exact (fu_ne (by omega)).trans hc
  have h_4 : ct_1 (h + 1) = .inr (1, [.int 0, .int 0, .int 0, .null, .null, .null, .null]) := by rw [q_2]; exact fu_eq _ _ _
  refine lv_dup hx hb dX4_init_8 rfl ?_
  refine fs_v (va_runI (As := []) (rest := [.ref (fa g (h + 1)), .ref (fa g h)]) E.1 (c_X1_init l g (h + 2) ct_1 (h + 1) rfl h_4) (lk_RX4_9 E.1.2.2.2.2 ⟨Nat.le_of_ble_eq_true rfl, Nat.le_of_ble_eq_true rfl⟩) (fpreS E hP hS) rfl rfl hl.1 rfl (lv_room (Nat.le_of_ble_eq_true rfl)) dX4_init_9 ⟨(Nat.le_of_ble_eq_true rfl), (Nat.le_of_ble_eq_true rfl)⟩) hS (fun ct_5 H locs p_9 hP hS => ?_)
  have h_6 : ct_5 h = .inr (4, [.null, .int 0]) := (p_9.2 _ (by omega)).trans h_3
  obtain ⟨⟨z_7b, z_7a, z_7t, z_7h⟩, -⟩ := id p_9.1
  refine fs_putF E hnm hP hS (k := h) 0 fc4 h_6 (by omega) (by decide) (wm wl_3 (i := 8) rfl) rfl rfl rfl rfl rfl (Nat.le_of_ble_eq_true rfl) dX4_init_12 (fun ct_8 H locs q_9 hP hS => ?_)
  have h_10 : ct_8 h = .inr (4, [.ref (fa g (h + 1)), .int 0]) := by rw [q_9]; exact fu_eq _ _ _
  have h_11 : ct_8 (h + 1) = .inr (1, [.int z_7b, .int z_7a, .int z_7t, .ref (fa g ((h + 1) + 1)), .ref (fa g ((h + 1) + 2)), .ref (fa g ((h + 1) + 3)), .ref (fa g ((h + 1) + 4))]) := by rw [q_9]; exact (fu_ne (by omega)).trans z_7h
  refine fs_vret E hr hlk hP hS dX4_init_15 ?_
  exact ⟨⟨h_10, HouseSh.keep p_9.1 (fun j h1 h2 => (show ct_8 j = ct_5 j by rw [q_9]; exact fu_ne (by omega)))⟩, (fSame.ap (fSame.tr2 (fSame.ap fSame.rf q_2 (by omega) (by omega)) p_9.2 (by omega) (by omega)) q_9 (by omega) (by omega))⟩

set_option maxRecDepth 100000 in
set_option maxHeartbeats 4000000 in
theorem c_X5_init (l : Launch) (g : fG) (N : Nat) (ct : Nat → va_E) (h : Nat) (hN : N = h + 1) (hc : ct h = .inr (5, [.null, .int 0, .int 0, .int 0, .null, .null, .null, .null])) : Met l yX5_init (wsU yX5_init cX5_init 1 none) rX5_init (fPre g N ct [.ref (fa g h)]) (fQv g (h + 7) (fun ct1 => SurvSh g ct1 h ∧ fSame h (h + 7) ct ct1)) 6 89 (fB g) := by
  refine fs_start (own := RX5) (lv0 := [(0, .ref (fa g h))]) (by decide) rfl (Nat.le_of_ble_eq_true rfl) rfl ?_
  intro p e s m args below meth c ls E hr hlk hnm hP hl hS
  have hx := E.1.1
  have hb := E.1.2.1
  subst hN
  refine lv_aload_n hx hb dX5_init_0 rfl (lv_at hl 0 rfl) ?_
  refine W.objInit hx hb E.1.2.2.2.1 (E.1.2.2.2.2 _ (wm wl_3 (i := 17) rfl)) (E.1.2.2.2.2 _ (wm wl_1 (i := 8) rfl)) (E.1.2.2.2.2 _ (wm wl_1 (i := 9) rfl)) rfl (by rw [E.1.2.2.1]; exact hl.1) rfl dX5_init_1 (Nat.le_of_ble_eq_true rfl) (Nat.le_of_ble_eq_true rfl) ?_
  refine W.eq (g2 := F0 m 4 ls []) rfl ?_
  refine lv_aload_n hx hb dX5_init_4 rfl (lv_at hl 0 rfl) ?_
  refine fs_new E (N := (h + 1)) (fs := [.int 0, .null]) hP hS fc6 (wm wl_3 (i := 18) rfl) (wm wl_3 (i := 19) rfl) (wm wl_3 (i := 20) rfl) (by decide) (Nat.le_of_ble_eq_true rfl) (Nat.le_of_ble_eq_true rfl) dX5_init_5 (fun ct_1 H q_2 hP hS => ?_)
  have h_3 : ct_1 h = .inr (5, [.null, .int 0, .int 0, .int 0, .null, .null, .null, .null]) := by rw [q_2]; exact (fu_ne (by omega)).trans hc
  have h_4 : ct_1 (h + 1) = .inr (6, [.int 0, .null]) := by rw [q_2]; exact fu_eq _ _ _
  refine lv_dup hx hb dX5_init_8 rfl ?_
  refine fs_v (va_runIN (As := []) (rest := [.ref (fa g (h + 1)), .ref (fa g h)]) E.1 (c_X6_init l g (h + 2) ct_1 (h + 1) rfl h_4) (lk_RX5_11 E.1.2.2.2.2 (E.2.1.2.1 _ (List.mem_of_getElem? (i := 27) rfl)) ⟨Nat.le_of_ble_eq_true rfl, Nat.le_of_ble_eq_true rfl⟩) (fpreS E hP hS) rfl rfl hl.1 rfl (lv_room (Nat.le_of_ble_eq_true rfl)) dX5_init_9 ⟨(Nat.le_of_ble_eq_true rfl), (Nat.le_of_ble_eq_true rfl)⟩) hS (fun ct_5 H locs p_9 hP hS => ?_)
  have h_6 : ct_5 h = .inr (5, [.null, .int 0, .int 0, .int 0, .null, .null, .null, .null]) := (p_9.2 _ (by omega)).trans h_3
  have hw1 := p_9.1.1
  have hw2 := p_9.1.2
  refine fs_putF E hnm hP hS (k := h) 0 fc5 h_6 (by omega) (by decide) (wm wl_3 (i := 21) rfl) rfl rfl rfl rfl rfl (Nat.le_of_ble_eq_true rfl) dX5_init_12 (fun ct_7 H locs q_8 hP hS => ?_)
  have h_9 : ct_7 h = .inr (5, [.ref (fa g (h + 1)), .int 0, .int 0, .int 0, .null, .null, .null, .null]) := by rw [q_8]; exact fu_eq _ _ _
  have h_10 : ct_7 (h + 1) = .inr (6, [.int 0, .ref (fa g (h + 2))]) := by rw [q_8]; exact (fu_ne (by omega)).trans hw1
  have h_11 : ct_7 (h + 2) = .inl (fcI g, 6, .inl (fun _ => 0)) := by rw [q_8]; exact (fu_ne (by omega)).trans hw2
  refine lv_aload_n hx hb dX5_init_15 rfl (lv_at hl 0 rfl) ?_
  refine lv_bipush (v := (nI 36)) hx hb dX5_init_16 (by decide) ?_
  refine fs_newaI E (N := (h + 3)) hP hS (k := 36) (wm wl_1 (i := 3) rfl) (by decide) (by decide) (by decide) (Nat.le_of_ble_eq_true rfl) (Nat.le_of_ble_eq_true rfl) dX5_init_18 (fun ct_12 H q_13 hP hS => ?_)
  have h_14 : ct_12 h = .inr (5, [.ref (fa g (h + 1)), .int 0, .int 0, .int 0, .null, .null, .null, .null]) := by rw [q_13]; exact (fu_ne (by omega)).trans h_9
  have h_15 : ct_12 (h + 1) = .inr (6, [.int 0, .ref (fa g (h + 2))]) := by rw [q_13]; exact (fu_ne (by omega)).trans h_10
  have h_16 : ct_12 (h + 2) = .inl (fcI g, 6, .inl (fun _ => 0)) := by rw [q_13]; exact (fu_ne (by omega)).trans h_11
  have h_17 : ct_12 (h + 3) = .inl (fcI g, 36, .inl (fun _ => 0)) := by rw [q_13]; exact fu_eq _ _ _
  refine fs_putF E hnm hP hS (k := h) 4 fc5 h_14 (by omega) (by decide) (wm wl_3 (i := 22) rfl) rfl rfl rfl rfl rfl (Nat.le_of_ble_eq_true rfl) dX5_init_20 (fun ct_18 H locs q_19 hP hS => ?_)
  have h_20 : ct_18 h = .inr (5, [.ref (fa g (h + 1)), .int 0, .int 0, .int 0, .ref (fa g (h + 3)), .null, .null, .null]) := by rw [q_19]; exact fu_eq _ _ _
  have h_21 : ct_18 (h + 1) = .inr (6, [.int 0, .ref (fa g (h + 2))]) := by rw [q_19]; exact (fu_ne (by omega)).trans h_15
  have h_22 : ct_18 (h + 2) = .inl (fcI g, 6, .inl (fun _ => 0)) := by rw [q_19]; exact (fu_ne (by omega)).trans h_16
  have h_23 : ct_18 (h + 3) = .inl (fcI g, 36, .inl (fun _ => 0)) := by rw [q_19]; exact (fu_ne (by omega)).trans h_17
  refine lv_aload_n hx hb dX5_init_23 rfl (lv_at hl 0 rfl) ?_
  refine lv_bipush (v := (nI 20)) hx hb dX5_init_24 (by decide) ?_
  refine fs_newaI E (N := (h + 4)) hP hS (k := 20) (wm wl_1 (i := 3) rfl) (by decide) (by decide) (by decide) (Nat.le_of_ble_eq_true rfl) (Nat.le_of_ble_eq_true rfl) dX5_init_26 (fun ct_24 H q_25 hP hS => ?_)
  have h_26 : ct_24 h = .inr (5, [.ref (fa g (h + 1)), .int 0, .int 0, .int 0, .ref (fa g (h + 3)), .null, .null, .null]) := by rw [q_25]; exact (fu_ne (by omega)).trans h_20
  have h_27 : ct_24 (h + 1) = .inr (6, [.int 0, .ref (fa g (h + 2))]) := by rw [q_25]; exact (fu_ne (by omega)).trans h_21
  have h_28 : ct_24 (h + 2) = .inl (fcI g, 6, .inl (fun _ => 0)) := by rw [q_25]; exact (fu_ne (by omega)).trans h_22
  have h_29 : ct_24 (h + 3) = .inl (fcI g, 36, .inl (fun _ => 0)) := by rw [q_25]; exact (fu_ne (by omega)).trans h_23
  have h_30 : ct_24 (h + 4) = .inl (fcI g, 20, .inl (fun _ => 0)) := by rw [q_25]; exact fu_eq _ _ _
  refine fs_putF E hnm hP hS (k := h) 5 fc5 h_26 (by omega) (by decide) (wm wl_3 (i := 23) rfl) rfl rfl rfl rfl rfl (Nat.le_of_ble_eq_true rfl) dX5_init_28 (fun ct_31 H locs q_32 hP hS => ?_)
  have h_33 : ct_31 h = .inr (5, [.ref (fa g (h + 1)), .int 0, .int 0, .int 0, .ref (fa g (h + 3)), .ref (fa g (h + 4)), .null, .null]) := by rw [q_32]; exact fu_eq _ _ _
  have h_34 : ct_31 (h + 1) = .inr (6, [.int 0, .ref (fa g (h + 2))]) := by rw [q_32]; exact (fu_ne (by omega)).trans h_27
  have h_35 : ct_31 (h + 2) = .inl (fcI g, 6, .inl (fun _ => 0)) := by rw [q_32]; exact (fu_ne (by omega)).trans h_28
  have h_36 : ct_31 (h + 3) = .inl (fcI g, 36, .inl (fun _ => 0)) := by rw [q_32]; exact (fu_ne (by omega)).trans h_29
  have h_37 : ct_31 (h + 4) = .inl (fcI g, 20, .inl (fun _ => 0)) := by rw [q_32]; exact (fu_ne (by omega)).trans h_30
  refine lv_aload_n hx hb dX5_init_31 rfl (lv_at hl 0 rfl) ?_
  refine lv_bipush (v := (nI 20)) hx hb dX5_init_32 (by decide) ?_
  refine fs_newaI E (N := (h + 5)) hP hS (k := 20) (wm wl_1 (i := 3) rfl) (by decide) (by decide) (by decide) (Nat.le_of_ble_eq_true rfl) (Nat.le_of_ble_eq_true rfl) dX5_init_34 (fun ct_38 H q_39 hP hS => ?_)
  have h_40 : ct_38 h = .inr (5, [.ref (fa g (h + 1)), .int 0, .int 0, .int 0, .ref (fa g (h + 3)), .ref (fa g (h + 4)), .null, .null]) := by rw [q_39]; exact (fu_ne (by omega)).trans h_33
  have h_41 : ct_38 (h + 1) = .inr (6, [.int 0, .ref (fa g (h + 2))]) := by rw [q_39]; exact (fu_ne (by omega)).trans h_34
  have h_42 : ct_38 (h + 2) = .inl (fcI g, 6, .inl (fun _ => 0)) := by rw [q_39]; exact (fu_ne (by omega)).trans h_35
  have h_43 : ct_38 (h + 3) = .inl (fcI g, 36, .inl (fun _ => 0)) := by rw [q_39]; exact (fu_ne (by omega)).trans h_36
  have h_44 : ct_38 (h + 4) = .inl (fcI g, 20, .inl (fun _ => 0)) := by rw [q_39]; exact (fu_ne (by omega)).trans h_37
  have h_45 : ct_38 (h + 5) = .inl (fcI g, 20, .inl (fun _ => 0)) := by rw [q_39]; exact fu_eq _ _ _
  refine fs_putF E hnm hP hS (k := h) 6 fc5 h_40 (by omega) (by decide) (wm wl_4 (i := 0) rfl) rfl rfl rfl rfl rfl (Nat.le_of_ble_eq_true rfl) dX5_init_36 (fun ct_46 H locs q_47 hP hS => ?_)
  have h_48 : ct_46 h = .inr (5, [.ref (fa g (h + 1)), .int 0, .int 0, .int 0, .ref (fa g (h + 3)), .ref (fa g (h + 4)), .ref (fa g (h + 5)), .null]) := by rw [q_47]; exact fu_eq _ _ _
  have h_49 : ct_46 (h + 1) = .inr (6, [.int 0, .ref (fa g (h + 2))]) := by rw [q_47]; exact (fu_ne (by omega)).trans h_41
  have h_50 : ct_46 (h + 2) = .inl (fcI g, 6, .inl (fun _ => 0)) := by rw [q_47]; exact (fu_ne (by omega)).trans h_42
  have h_51 : ct_46 (h + 3) = .inl (fcI g, 36, .inl (fun _ => 0)) := by rw [q_47]; exact (fu_ne (by omega)).trans h_43
  have h_52 : ct_46 (h + 4) = .inl (fcI g, 20, .inl (fun _ => 0)) := by rw [q_47]; exact (fu_ne (by omega)).trans h_44
  have h_53 : ct_46 (h + 5) = .inl (fcI g, 20, .inl (fun _ => 0)) := by rw [q_47]; exact (fu_ne (by omega)).trans h_45
  refine lv_aload_n hx hb dX5_init_39 rfl (lv_at hl 0 rfl) ?_
  refine fs_new E (N := (h + 6)) (fs := [.int 0, .int 0, .int 0, .int 0, .int 0]) hP hS fc3 (wm wl_4 (i := 1) rfl) (wm wl_2 (i := 16) rfl) (wm wl_2 (i := 17) rfl) (by decide) (Nat.le_of_ble_eq_true rfl) (Nat.le_of_ble_eq_true rfl) dX5_init_40 (fun ct_54 H q_55 hP hS => ?_)
  have h_56 : ct_54 h = .inr (5, [.ref (fa g (h + 1)), .int 0, .int 0, .int 0, .ref (fa g (h + 3)), .ref (fa g (h + 4)), .ref (fa g (h + 5)), .null]) := by rw [q_55]; exact (fu_ne (by omega)).trans h_48
  have h_57 : ct_54 (h + 1) = .inr (6, [.int 0, .ref (fa g (h + 2))]) := by rw [q_55]; exact (fu_ne (by omega)).trans h_49
  have h_58 : ct_54 (h + 2) = .inl (fcI g, 6, .inl (fun _ => 0)) := by rw [q_55]; exact (fu_ne (by omega)).trans h_50
  have h_59 : ct_54 (h + 3) = .inl (fcI g, 36, .inl (fun _ => 0)) := by rw [q_55]; exact (fu_ne (by omega)).trans h_51
  have h_60 : ct_54 (h + 4) = .inl (fcI g, 20, .inl (fun _ => 0)) := by rw [q_55]; exact (fu_ne (by omega)).trans h_52
  have h_61 : ct_54 (h + 5) = .inl (fcI g, 20, .inl (fun _ => 0)) := by rw [q_55]; exact (fu_ne (by omega)).trans h_53
  have h_62 : ct_54 (h + 6) = .inr (3, [.int 0, .int 0, .int 0, .int 0, .int 0]) := by rw [q_55]; exact fu_eq _ _ _
  refine lv_dup hx hb dX5_init_43 rfl ?_
  refine fs_v (va_runIN (As := []) (rest := [.ref (fa g (h + 6)), .ref (fa g h)]) E.1 (c_X3_init l g (h + 7) ct_54 (h + 6)) (lk_RX5_30 E.1.2.2.2.2 (E.2.1.2.1 _ (List.mem_of_getElem? (i := 28) rfl)) ⟨Nat.le_of_ble_eq_true rfl, Nat.le_of_ble_eq_true rfl⟩) (fpreS E hP hS) rfl rfl hl.1 rfl (lv_room (Nat.le_of_ble_eq_true rfl)) dX5_init_44 ⟨(Nat.le_of_ble_eq_true rfl), (Nat.le_of_ble_eq_true rfl)⟩) hS (fun ct_63 H locs p_44 hP hS => ?_)
  have h_64 : ct_63 h = .inr (5, [.ref (fa g (h + 1)), .int 0, .int 0, .int 0, .ref (fa g (h + 3)), .ref (fa g (h + 4)), .ref (fa g (h + 5)), .null]) := by rw [p_44]; exact h_56
  have h_65 : ct_63 (h + 1) = .inr (6, [.int 0, .ref (fa g (h + 2))]) := by rw [p_44]; exact h_57
  have h_66 : ct_63 (h + 2) = .inl (fcI g, 6, .inl (fun _ => 0)) := by rw [p_44]; exact h_58
  have h_67 : ct_63 (h + 3) = .inl (fcI g, 36, .inl (fun _ => 0)) := by rw [p_44]; exact h_59
  have h_68 : ct_63 (h + 4) = .inl (fcI g, 20, .inl (fun _ => 0)) := by rw [p_44]; exact h_60
  have h_69 : ct_63 (h + 5) = .inl (fcI g, 20, .inl (fun _ => 0)) := by rw [p_44]; exact h_61
  have h_70 : ct_63 (h + 6) = .inr (3, [.int 0, .int 0, .int 0, .int 0, .int 0]) := by rw [p_44]; exact h_62
  refine fs_putF E hnm hP hS (k := h) 7 fc5 h_64 (by omega) (by decide) (wm wl_4 (i := 2) rfl) rfl rfl rfl rfl rfl (Nat.le_of_ble_eq_true rfl) dX5_init_47 (fun ct_71 H locs q_72 hP hS => ?_)
  have h_73 : ct_71 h = .inr (5, [.ref (fa g (h + 1)), .int 0, .int 0, .int 0, .ref (fa g (h + 3)), .ref (fa g (h + 4)), .ref (fa g (h + 5)), .ref (fa g (h + 6))]) := by rw [q_72]; exact fu_eq _ _ _
  have h_74 : ct_71 (h + 1) = .inr (6, [.int 0, .ref (fa g (h + 2))]) := by rw [q_72]; exact (fu_ne (by omega)).trans h_65
  have h_75 : ct_71 (h + 2) = .inl (fcI g, 6, .inl (fun _ => 0)) := by rw [q_72]; exact (fu_ne (by omega)).trans h_66
  have h_76 : ct_71 (h + 3) = .inl (fcI g, 36, .inl (fun _ => 0)) := by rw [q_72]; exact (fu_ne (by omega)).trans h_67
  have h_77 : ct_71 (h + 4) = .inl (fcI g, 20, .inl (fun _ => 0)) := by rw [q_72]; exact (fu_ne (by omega)).trans h_68
  have h_78 : ct_71 (h + 5) = .inl (fcI g, 20, .inl (fun _ => 0)) := by rw [q_72]; exact (fu_ne (by omega)).trans h_69
  have h_79 : ct_71 (h + 6) = .inr (3, [.int 0, .int 0, .int 0, .int 0, .int 0]) := by rw [q_72]; exact (fu_ne (by omega)).trans h_70
  refine fs_vret E hr hlk hP hS dX5_init_50 ?_
  exact ⟨⟨⟨_, _, _, h_73⟩, ⟨_, h_76⟩, ⟨_, h_77⟩, ⟨_, h_78⟩, ⟨⟨_, h_74⟩, ⟨_, h_75⟩⟩, ⟨_, _, _, _, _, h_79⟩⟩, (fSame.ap (fSame.tr (fSame.ap (fSame.ap (fSame.ap (fSame.ap (fSame.ap (fSame.ap (fSame.ap (fSame.ap (fSame.tr2 (fSame.ap fSame.rf q_2 (by omega) (by omega)) p_9.2 (by omega) (by omega)) q_8 (by omega) (by omega)) q_13 (by omega) (by omega)) q_19 (by omega) (by omega)) q_25 (by omega) (by omega)) q_32 (by omega) (by omega)) q_39 (by omega) (by omega)) q_47 (by omega) (by omega)) q_55 (by omega) (by omega)) (fSame.of_eq p_44)) q_72 (by omega) (by omega))⟩

/-- the history's shape, being made -/
def HistMk (g : fG) (ct : Nat → va_E) (h i : Nat) : Prop := ct h = .inr (0, [.ref (fa g (h + 1)), .int 0, .int 0]) ∧ ∃ f : Nat → Option Nat, ct (h + 1) = .inl (fcH g, 6, .inr (.inr (.inr (.inr f)))) ∧ (∀ j, j < i → f j = some (fa g (h + 2 + 25 * j))) ∧ ∀ j, j < i → HouseSh g ct (h + 2 + 25 * j)
theorem HistMk.step {g : fG} {ct ct1 : Nat → va_E} {h i : Nat} {f : Nat → Option Nat} (H : HistMk g ct h i) (h0 : ct1 h = ct h) (hf : ct (h + 1) = .inl (fcH g, 6, .inr (.inr (.inr (.inr f))))) (h4 : ct1 (h + 1) = .inl (fcH g, 6, .inr (.inr (.inr (.inr (va_up f i (some (fa g (h + 2 + 25 * i)))))))))
    (h5 : HouseSh g ct1 (h + 2 + 25 * i)) (hk : ∀ j, h + 2 ≤ j → j < h + 2 + 25 * i → ct1 j = ct j) : HistMk g ct1 h (i + 1) := by
  obtain ⟨a, f2, e, e2, e3⟩ := H
  have ef : f2 = f := by rw [e] at hf; injection hf with a; injection a with _ a; injection a with _ a; injection a with a; injection a with a; injection a with a; injection a with a
  subst ef
  refine ⟨h0.trans a, _, h4, fun r hr => ?_, fun r hr => ?_⟩
  · by_cases z : r = i
    · subst z; exact vup_eq
    · rw [vup_ne z]; exact e2 r (by omega)
  · by_cases z : r = i
    · subst z; exact h5
    · exact (e3 r (by omega)).keep (fun j h1 h2 => hk j (by omega) (by omega))

set_option maxRecDepth 100000 in
set_option maxHeartbeats 4000000 in
theorem c_X0_init (l : Launch) (g : fG) (N : Nat) (ct : Nat → va_E) (h : Nat) (hN : N = h + 1) (hc : ct h = .inr (0, [.null, .int 0, .int 0])) : Met l yX0_init (wsU yX0_init cX0_init 2 none) rX0_init (fPre g N ct [.ref (fa g h)]) (fQv g (h + 152) (fun ct1 => HistMk g ct1 h 6 ∧ fSame h (h + 152) ct ct1)) 151 876 (fB g) := by
  refine fs_start (own := RX0) (lv0 := [(0, .ref (fa g h))]) (by decide) rfl (Nat.le_of_ble_eq_true rfl) rfl ?_
  intro p e s m args below meth c ls E hr hlk hnm hP hl hS
  have hx := E.1.1
  have hb := E.1.2.1
  subst hN
  refine lv_aload_n hx hb dX0_init_0 rfl (lv_at hl 0 rfl) ?_
  refine W.objInit hx hb E.1.2.2.2.1 (E.1.2.2.2.2 _ (wm wl_3 (i := 0) rfl)) (E.1.2.2.2.2 _ (wm wl_1 (i := 8) rfl)) (E.1.2.2.2.2 _ (wm wl_1 (i := 9) rfl)) rfl (by rw [E.1.2.2.1]; exact hl.1) rfl dX0_init_1 (Nat.le_of_ble_eq_true rfl) (Nat.le_of_ble_eq_true rfl) ?_
  refine W.eq (g2 := F0 m 4 ls []) rfl ?_
  refine lv_aload_n hx hb dX0_init_4 rfl (lv_at hl 0 rfl) ?_
  refine lv_bipush (v := (nI 6)) hx hb dX0_init_5 (by decide) ?_
  refine fs_anewX E (N := (h + 1)) hP hS (k := 6) (q := 3) rfl E.2.1.2.2.2 (wm wl_3 (i := 1) rfl) (by decide) (by decide) (by decide) (Nat.le_of_ble_eq_true rfl) (Nat.le_of_ble_eq_true rfl) dX0_init_7 (fun ct_1 H q_2 hP hS => ?_)
  have h_3 : ct_1 h = .inr (0, [.null, .int 0, .int 0]) := by rw [q_2]; exact (fu_ne (by omega)).trans hc
  have h_4 : ct_1 (h + 1) = .inl (fcH g, 6, .inr (.inr (.inr (.inr (fun _ => none))))) := by rw [q_2]; exact fu_eq _ _ _
  refine fs_putF E hnm hP hS (k := h) 0 fc0 h_3 (by omega) (by decide) (wm wl_3 (i := 2) rfl) rfl rfl rfl rfl rfl (Nat.le_of_ble_eq_true rfl) dX0_init_10 (fun ct_5 H locs q_6 hP hS => ?_)
  have h_7 : ct_5 h = .inr (0, [.ref (fa g (h + 1)), .int 0, .int 0]) := by rw [q_6]; exact fu_eq _ _ _
  have h_8 : ct_5 (h + 1) = .inl (fcH g, 6, .inr (.inr (.inr (.inr (fun _ => none))))) := by rw [q_6]; exact (fu_ne (by omega)).trans h_4
  refine lv_iconst (v := (nI 0)) hx hb dX0_init_13 (by decide) ?_
  refine lv_istore_n (lv' := [(1, .int (nI 0)), (0, .ref (fa g h))]) hx hb dX0_init_14 rfl hl (by decide) rfl (fun ls hl => ?_)
  refine fs_indG (g := g) (St := Nat) (fun i => h + 2 + 25 * i) (fun i => 1 + 25 * i) (fun i => 6 + 145 * i) (fun i ct1 ls => lv_has ls 2 [(0, .ref (fa g h)), (1, .int (nI i))] ∧ i ≤ 6 ∧ HistMk g ct1 h i ∧ fSame h (h + 152) ct ct1) (fun i => 6 - i) ?_ 0 _ _ ls _ _ _ _ rfl rfl rfl ⟨lv_sub hl [1, 0] rfl, by omega, ⟨h_7, _, h_8, fun r hr => absurd hr (by omega), fun r hr => absurd hr (by omega)⟩, (fSame.ap (fSame.ap fSame.rf q_2 (by omega) (by omega)) q_6 (by omega) (by omega))⟩ hP hS
  clear hl hP hS
  intro st ct9 H ls locs hI hP hS ih
  obtain ⟨i, rfl⟩ : ∃ z, z = st := ⟨_, rfl⟩
  try dsimp only at hI hP ih
  obtain ⟨hl, hI⟩ := hI
  have hI1 := hI.1
  obtain ⟨hIh, f, hI4, -, -⟩ := id hI.2.1
  refine lv_iload_n hx hb dX0_init_15 rfl (lv_at hl 1 rfl) ?_
  refine lv_aload_n hx hb dX0_init_16 rfl (lv_at hl 0 rfl) ?_
  refine fs_get E hP (k := h) (v := .ref (fa g (h + 1))) 0 fc0 hIh (by omega) (by decide) (wm wl_3 (i := 2) rfl) rfl dX0_init_17 ?_
  refine fs_alenH E hP (k := (h + 1)) hI4 (by omega) dX0_init_20 ?_
  refine lv_icmp_ge (tgt := 43) hx hb dX0_init_21 (by decide) (fun c_21 => ?_) (fun c_21 => ?_)
  · rw [nI_leI (by omega) (by omega)] at c_21
    obtain rfl : i = 6 := by omega
    refine fs_vret E hr hlk hP hS dX0_init_43 ?_
    exact ⟨hI.2.1, hI.2.2⟩
  · rw [nI_leI (by omega) (by omega)] at c_21
    refine lv_aload_n hx hb dX0_init_24 rfl (lv_at hl 0 rfl) ?_
    refine fs_get E hP (k := h) (v := .ref (fa g (h + 1))) 0 fc0 hIh (by omega) (by decide) (wm wl_3 (i := 2) rfl) rfl dX0_init_25 ?_
    refine lv_iload_n hx hb dX0_init_28 rfl (lv_at hl 1 rfl) ?_
    refine fs_new E (N := (h + 2 + 25 * i)) (fs := [.int 0, .int 0, .int 0, .null, .null, .null, .null]) hP hS fc1 (wm wl_3 (i := 1) rfl) (wm wl_1 (i := 11) rfl) (wm wl_1 (i := 12) rfl) (by decide) (Nat.le_trans (by omega : _ ≤ 151) (Nat.le_refl _)) (Nat.le_trans (by omega : _ ≤ 876) (Nat.le_refl _)) dX0_init_29 (fun ct_9 H q_10 hP hS => ?_)
    have h_11 : ct_9 h = .inr (0, [.ref (fa g (h + 1)), .int 0, .int 0]) := by rw [q_10]; exact (fu_ne (by omega)).trans hIh
    have h_12 : ct_9 (h + 1) = .inl (fcH g, 6, .inr (.inr (.inr (.inr f)))) := by rw [q_10]; exact (fu_ne (by omega)).trans hI4
    have h_13 : ct_9 (h + 2 + 25 * i) = .inr (1, [.int 0, .int 0, .int 0, .null, .null, .null, .null]) := by rw [q_10]; exact fu_eq _ _ _
    refine lv_dup hx hb dX0_init_32 rfl ?_
    refine fs_v (va_runI (As := []) (rest := [.ref (fa g (h + 2 + 25 * i)), .int (nI i), .ref (fa g (h + 1))]) E.1 (c_X1_init l g ((h + 2 + 25 * i) + 1) ct_9 (h + 2 + 25 * i) rfl h_13) (lk_RX0_17 E.1.2.2.2.2 ⟨Nat.le_of_ble_eq_true rfl, Nat.le_of_ble_eq_true rfl⟩) (fpreS E hP hS) rfl rfl hl.1 rfl (lv_room (Nat.le_of_ble_eq_true rfl)) dX0_init_33 ⟨(Nat.le_trans (by omega : _ ≤ 151) (Nat.le_refl _)), (Nat.le_trans (by omega : _ ≤ 876) (Nat.le_refl _))⟩) hS (fun ct_14 H locs p_33 hP hS => ?_)
    have h_15 : ct_14 h = .inr (0, [.ref (fa g (h + 1)), .int 0, .int 0]) := (p_33.2 _ (by omega)).trans h_11
    have h_16 : ct_14 (h + 1) = .inl (fcH g, 6, .inr (.inr (.inr (.inr f)))) := (p_33.2 _ (by omega)).trans h_12
    obtain ⟨⟨z_17b, z_17a, z_17t, z_17h⟩, -⟩ := id p_33.1
    refine fs_aastX E hP hS (k := (h + 1)) (v := (h + 2 + 25 * i)) (t0 := 3) (ci := 1) rfl rfl h_16 (by omega) z_17h (by omega) (vp_in_nI (by omega) (by omega)) dX0_init_36 (fun ct_18 H locs q_19 hP hS => ?_)
    rw [nI_clamp (by omega)] at q_19
    have h_20 : ct_18 h = .inr (0, [.ref (fa g (h + 1)), .int 0, .int 0]) := by rw [q_19]; exact (fu_ne (by omega)).trans h_15
    have h_21 : ct_18 (h + 1) = .inl (fcH g, 6, .inr (.inr (.inr (.inr (va_up f i (some (fa g (h + 2 + 25 * i)))))))) := by rw [q_19]; exact fu_eq _ _ _
    have h_22 : ct_18 (h + 2 + 25 * i) = .inr (1, [.int z_17b, .int z_17a, .int z_17t, .ref (fa g ((h + 2 + 25 * i) + 1)), .ref (fa g ((h + 2 + 25 * i) + 2)), .ref (fa g ((h + 2 + 25 * i) + 3)), .ref (fa g ((h + 2 + 25 * i) + 4))]) := by rw [q_19]; exact (fu_ne (by omega)).trans z_17h
    refine lv_iinc (v := (nI (i + 1))) (lv' := [(1, .int (nI (i + 1))), (0, .ref (fa g h))]) hx hb dX0_init_37 hl (k := 1) rfl (nI_1 _) (by decide) rfl (fun ls hl => ?_)
    refine lv_goto (tgt := 15) hx hb dX0_init_40 (by decide) ?_
    exact ih (i + 1) _ _ ls _ _ _ _ (by (try dsimp only); omega) (by (try dsimp only); omega) (by (try dsimp only); omega) (by (try dsimp only); omega) ⟨lv_sub hl [1, 0] rfl, by omega, HistMk.step hI.2.1 ((h_20).trans hIh.symm) hI4 h_21 (HouseSh.keep p_33.1 (fun j h1 h2 => (show ct_18 j = ct_14 j by rw [q_19]; exact fu_ne (by omega)))) (fun j h1 h2 => ((show ct_18 j = ct_14 j by rw [q_19]; exact fu_ne (by omega))).trans (((p_33.2 j (by omega))).trans ((show ct_9 j = ct9 j by rw [q_10]; exact fu_ne (by omega))))), fSame.tr2 hI.2.2 (show fSame (h + 1) (h + 2 + 25 * i + 25) _ _ from (fSame.ap (fSame.tr2 (fSame.ap fSame.rf q_10 (by omega) (by omega)) p_33.2 (by omega) (by omega)) q_19 (by omega) (by omega))) (by omega) (by omega)⟩ hP hS
