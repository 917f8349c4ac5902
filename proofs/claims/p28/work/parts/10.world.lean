/-! wsL_law by its chunks -/
theorem wm {A : List Cond} (hA : ∀ w ∈ A, w ∈ wsL_law) {i : Nat} {w : Cond} (h : A[i]? = some w) : w ∈ wsL_law := hA w (List.mem_of_getElem? h)
theorem wl_1 : ∀ w ∈ wsL_law_r1, w ∈ wsL_law := fun _ h => List.mem_append_left _ (List.mem_append_left _ (List.mem_append_left _ (List.mem_append_left _ (List.mem_append_left _ (List.mem_append_left _ (List.mem_append_left _ (List.mem_append_left _ (List.mem_append_left _ (List.mem_append_left _ h)))))))))
theorem wl_2 : ∀ w ∈ wsL_law_r2, w ∈ wsL_law := fun _ h => List.mem_append_left _ (List.mem_append_left _ (List.mem_append_left _ (List.mem_append_left _ (List.mem_append_left _ (List.mem_append_left _ (List.mem_append_left _ (List.mem_append_left _ (List.mem_append_left _ (List.mem_append_right _ (List.mem_append_left _ h))))))))))
theorem wl_3 : ∀ w ∈ wsL_law_r3, w ∈ wsL_law := fun _ h => List.mem_append_left _ (List.mem_append_left _ (List.mem_append_left _ (List.mem_append_left _ (List.mem_append_left _ (List.mem_append_left _ (List.mem_append_left _ (List.mem_append_left _ (List.mem_append_left _ (List.mem_append_right _ (List.mem_append_right _ (List.mem_append_left _ h)))))))))))
theorem wl_4 : ∀ w ∈ wsL_law_r4, w ∈ wsL_law := fun _ h => List.mem_append_left _ (List.mem_append_left _ (List.mem_append_left _ (List.mem_append_left _ (List.mem_append_left _ (List.mem_append_left _ (List.mem_append_left _ (List.mem_append_left _ (List.mem_append_left _ (List.mem_append_right _ (List.mem_append_right _ (List.mem_append_right _ (List.mem_append_left _ h))))))))))))
theorem wl_5 : ∀ w ∈ wsL_law_r5, w ∈ wsL_law := fun _ h => List.mem_append_left _ (List.mem_append_left _ (List.mem_append_left _ (List.mem_append_left _ (List.mem_append_left _ (List.mem_append_left _ (List.mem_append_left _ (List.mem_append_left _ (List.mem_append_left _ (List.mem_append_right _ (List.mem_append_right _ (List.mem_append_right _ (List.mem_append_right _ (List.mem_append_left _ h)))))))))))))
theorem wl_6 : ∀ w ∈ wsL_law_r6, w ∈ wsL_law := fun _ h => List.mem_append_left _ (List.mem_append_left _ (List.mem_append_left _ (List.mem_append_left _ (List.mem_append_left _ (List.mem_append_left _ (List.mem_append_left _ (List.mem_append_left _ (List.mem_append_left _ (List.mem_append_right _ (List.mem_append_right _ (List.mem_append_right _ (List.mem_append_right _ (List.mem_append_right _ (List.mem_append_left _ h))))))))))))))
theorem wl_7 : ∀ w ∈ wsL_law_r7, w ∈ wsL_law := fun _ h => List.mem_append_left _ (List.mem_append_left _ (List.mem_append_left _ (List.mem_append_left _ (List.mem_append_left _ (List.mem_append_left _ (List.mem_append_left _ (List.mem_append_left _ (List.mem_append_left _ (List.mem_append_right _ (List.mem_append_right _ (List.mem_append_right _ (List.mem_append_right _ (List.mem_append_right _ (List.mem_append_right _ (List.mem_append_left _ h)))))))))))))))
theorem wl_8 : ∀ w ∈ wsL_law_r8, w ∈ wsL_law := fun _ h => List.mem_append_left _ (List.mem_append_left _ (List.mem_append_left _ (List.mem_append_left _ (List.mem_append_left _ (List.mem_append_left _ (List.mem_append_left _ (List.mem_append_left _ (List.mem_append_left _ (List.mem_append_right _ (List.mem_append_right _ (List.mem_append_right _ (List.mem_append_right _ (List.mem_append_right _ (List.mem_append_right _ (List.mem_append_right _ (List.mem_append_left _ h))))))))))))))))
theorem wl_9 : ∀ w ∈ wsL_law_r9, w ∈ wsL_law := fun _ h => List.mem_append_left _ (List.mem_append_left _ (List.mem_append_left _ (List.mem_append_left _ (List.mem_append_left _ (List.mem_append_left _ (List.mem_append_left _ (List.mem_append_left _ (List.mem_append_left _ (List.mem_append_right _ (List.mem_append_right _ (List.mem_append_right _ (List.mem_append_right _ (List.mem_append_right _ (List.mem_append_right _ (List.mem_append_right _ (List.mem_append_right _ (List.mem_append_left _ h)))))))))))))))))
theorem wl_10 : ∀ w ∈ wsL_law_r10, w ∈ wsL_law := fun _ h => List.mem_append_left _ (List.mem_append_left _ (List.mem_append_left _ (List.mem_append_left _ (List.mem_append_left _ (List.mem_append_left _ (List.mem_append_left _ (List.mem_append_left _ (List.mem_append_left _ (List.mem_append_right _ (List.mem_append_right _ (List.mem_append_right _ (List.mem_append_right _ (List.mem_append_right _ (List.mem_append_right _ (List.mem_append_right _ (List.mem_append_right _ (List.mem_append_right _ (List.mem_append_left _ h))))))))))))))))))
theorem wl_11 : ∀ w ∈ wsL_law_r11, w ∈ wsL_law := fun _ h => List.mem_append_left _ (List.mem_append_left _ (List.mem_append_left _ (List.mem_append_left _ (List.mem_append_left _ (List.mem_append_left _ (List.mem_append_left _ (List.mem_append_left _ (List.mem_append_left _ (List.mem_append_right _ (List.mem_append_right _ (List.mem_append_right _ (List.mem_append_right _ (List.mem_append_right _ (List.mem_append_right _ (List.mem_append_right _ (List.mem_append_right _ (List.mem_append_right _ (List.mem_append_right _ (List.mem_append_left _ h)))))))))))))))))))
theorem wl_12 : ∀ w ∈ wsL_law_r12, w ∈ wsL_law := fun _ h => List.mem_append_left _ (List.mem_append_left _ (List.mem_append_left _ (List.mem_append_left _ (List.mem_append_left _ (List.mem_append_left _ (List.mem_append_left _ (List.mem_append_left _ (List.mem_append_left _ (List.mem_append_right _ (List.mem_append_right _ (List.mem_append_right _ (List.mem_append_right _ (List.mem_append_right _ (List.mem_append_right _ (List.mem_append_right _ (List.mem_append_right _ (List.mem_append_right _ (List.mem_append_right _ (List.mem_append_right _ (List.mem_append_left _ h))))))))))))))))))))
theorem wl_13 : ∀ w ∈ wsL_law_r13, w ∈ wsL_law := fun _ h => List.mem_append_left _ (List.mem_append_left _ (List.mem_append_left _ (List.mem_append_left _ (List.mem_append_left _ (List.mem_append_left _ (List.mem_append_left _ (List.mem_append_left _ (List.mem_append_left _ (List.mem_append_right _ (List.mem_append_right _ (List.mem_append_right _ (List.mem_append_right _ (List.mem_append_right _ (List.mem_append_right _ (List.mem_append_right _ (List.mem_append_right _ (List.mem_append_right _ (List.mem_append_right _ (List.mem_append_right _ (List.mem_append_right _ (List.mem_append_left _ h)))))))))))))))))))))
theorem wl_14 : ∀ w ∈ wsL_law_r14, w ∈ wsL_law := fun _ h => List.mem_append_left _ (List.mem_append_left _ (List.mem_append_left _ (List.mem_append_left _ (List.mem_append_left _ (List.mem_append_left _ (List.mem_append_left _ (List.mem_append_left _ (List.mem_append_left _ (List.mem_append_right _ (List.mem_append_right _ (List.mem_append_right _ (List.mem_append_right _ (List.mem_append_right _ (List.mem_append_right _ (List.mem_append_right _ (List.mem_append_right _ (List.mem_append_right _ (List.mem_append_right _ (List.mem_append_right _ (List.mem_append_right _ (List.mem_append_right _ (List.mem_append_left _ h))))))))))))))))))))))
theorem wl_15 : ∀ w ∈ wsL_law_r15, w ∈ wsL_law := fun _ h => List.mem_append_left _ (List.mem_append_left _ (List.mem_append_left _ (List.mem_append_left _ (List.mem_append_left _ (List.mem_append_left _ (List.mem_append_left _ (List.mem_append_left _ (List.mem_append_left _ (List.mem_append_right _ (List.mem_append_right _ (List.mem_append_right _ (List.mem_append_right _ (List.mem_append_right _ (List.mem_append_right _ (List.mem_append_right _ (List.mem_append_right _ (List.mem_append_right _ (List.mem_append_right _ (List.mem_append_right _ (List.mem_append_right _ (List.mem_append_right _ (List.mem_append_right _ (List.mem_append_left _ h)))))))))))))))))))))))
theorem wl_16 : ∀ w ∈ wsL_law_r16, w ∈ wsL_law := fun _ h => List.mem_append_left _ (List.mem_append_left _ (List.mem_append_left _ (List.mem_append_left _ (List.mem_append_left _ (List.mem_append_left _ (List.mem_append_left _ (List.mem_append_left _ (List.mem_append_left _ (List.mem_append_right _ (List.mem_append_right _ (List.mem_append_right _ (List.mem_append_right _ (List.mem_append_right _ (List.mem_append_right _ (List.mem_append_right _ (List.mem_append_right _ (List.mem_append_right _ (List.mem_append_right _ (List.mem_append_right _ (List.mem_append_right _ (List.mem_append_right _ (List.mem_append_right _ (List.mem_append_right _ (List.mem_append_left _ h))))))))))))))))))))))))
theorem wl_17 : ∀ w ∈ wsL_law_r17, w ∈ wsL_law := fun _ h => List.mem_append_left _ (List.mem_append_left _ (List.mem_append_left _ (List.mem_append_left _ (List.mem_append_left _ (List.mem_append_left _ (List.mem_append_left _ (List.mem_append_left _ (List.mem_append_left _ (List.mem_append_right _ (List.mem_append_right _ (List.mem_append_right _ (List.mem_append_right _ (List.mem_append_right _ (List.mem_append_right _ (List.mem_append_right _ (List.mem_append_right _ (List.mem_append_right _ (List.mem_append_right _ (List.mem_append_right _ (List.mem_append_right _ (List.mem_append_right _ (List.mem_append_right _ (List.mem_append_right _ (List.mem_append_right _ (List.mem_append_left _ h)))))))))))))))))))))))))
theorem wl_18 : ∀ w ∈ wsL_law_r18, w ∈ wsL_law := fun _ h => List.mem_append_left _ (List.mem_append_left _ (List.mem_append_left _ (List.mem_append_left _ (List.mem_append_left _ (List.mem_append_left _ (List.mem_append_left _ (List.mem_append_left _ (List.mem_append_left _ (List.mem_append_right _ (List.mem_append_right _ (List.mem_append_right _ (List.mem_append_right _ (List.mem_append_right _ (List.mem_append_right _ (List.mem_append_right _ (List.mem_append_right _ (List.mem_append_right _ (List.mem_append_right _ (List.mem_append_right _ (List.mem_append_right _ (List.mem_append_right _ (List.mem_append_right _ (List.mem_append_right _ (List.mem_append_right _ (List.mem_append_right _ (h))))))))))))))))))))))))))
abbrev fNest : List Cond := [.fieldLinkNest RX7 169 "OperaGlasses$Rumour" "teller" "I" "OperaGlasses", .fieldLinkNest RX1 90 "OperaGlasses$Rumour" "teller" "I" "OperaGlasses", .fieldLinkNest RX7 172 "OperaGlasses$Rumour" "kind" "I" "OperaGlasses", .fieldLinkNest RX7 175 "OperaGlasses$Rumour" "a" "I" "OperaGlasses", .fieldLinkNest RX7 178 "OperaGlasses$Rumour" "b" "I" "OperaGlasses", .fieldLinkNest RX7 122 "OperaGlasses$Rumour" "status" "I" "OperaGlasses", .fieldLinkNest RX1 68 "OperaGlasses$Rumour" "status" "I" "OperaGlasses", .fieldLinkNest RX5 38 "OperaGlasses$House" "boxes" "I" "OperaGlasses", .fieldLinkNest RX7 51 "OperaGlasses$House" "boxes" "I" "OperaGlasses", .fieldLinkNest RX7 157 "OperaGlasses$House" "act" "I" "OperaGlasses", .fieldLinkNest RX5 77 "OperaGlasses$House" "told" "I" "OperaGlasses", .fieldLinkNest RX7 85 "OperaGlasses$House" "told" "I" "OperaGlasses", .fieldLinkNest RX7 62 "OperaGlasses$House" "looks" "[I" "OperaGlasses", .fieldLinkNest RX7 148 "OperaGlasses$House" "scores" "[I" "OperaGlasses", .fieldLinkNest RX7 141 "OperaGlasses$House" "guessed" "[I" "OperaGlasses", .fieldLinkNest RX7 208 "OperaGlasses$History" "kept" "I" "OperaGlasses", .fieldLinkNest RX7 205 "OperaGlasses$Pad" "length" "I" "OperaGlasses", .fieldLinkNest RX5 48 "OperaGlasses$Walk" "boxOf" "[I" "OperaGlasses", .fieldLinkNest RX7 135 "OperaGlasses$Survey" "worlds" "I" "OperaGlasses", .fieldLinkNest RX7 245 "OperaGlasses$Survey" "mostWatchedPerson" "I" "OperaGlasses", .fieldLinkNest RX7 242 "OperaGlasses$Survey" "mostWatchers" "I" "OperaGlasses", .fieldLinkNest RX7 185 "OperaGlasses$Survey" "holding" "[I" "OperaGlasses", .fieldLinkNest RX7 235 "OperaGlasses$Survey" "onlyBroken" "[I" "OperaGlasses", .methodLinkNest RX1 27 yX3_init "OperaGlasses", .methodLinkNest RX7 25 yX4_init "OperaGlasses", .methodLinkNest RX7 35 yX2_init "OperaGlasses", .methodLinkNest RX7 42 yX5_init "OperaGlasses", .methodLinkNest RX5 11 yX6_init "OperaGlasses", .methodLinkNest RX5 30 yX3_init "OperaGlasses", .methodLinkNest RX1 38 yX7_fillRow "OperaGlasses", .methodLinkNest RX1 42 yX7_copyRow "OperaGlasses", .methodLinkNest RX5 69 yX7_fillRow "OperaGlasses", .methodLinkNest RX3 31 yX7_at "OperaGlasses", .methodLinkNest RX3 35 yX7_watchers "OperaGlasses", .methodLinkNest RX5 73 yX7_at "OperaGlasses", .methodLinkNest RX5 59 yX7_addAt "OperaGlasses", .methodLinkNest RX6 23 yX7_at "OperaGlasses", .methodLinkNest RX6 27 yX7_setAt "OperaGlasses", .methodLinkNest RX1 86 yX7_addAt "OperaGlasses", .methodLinkNest RX5 123 yX7_watchers "OperaGlasses"]
/-! the world: addresses by ids, contents by ids -/
abbrev fG : Type := va_G × Nat × (ClassId × ClassId × ClassId × ClassId) × (Nat × Nat)
def fa (g : fG) (k : Nat) : Nat := g.2.1 + k
def fcI (g : fG) : ClassId := g.2.2.1.1
def fcC (g : fG) : ClassId := g.2.2.1.2.1
def fcR (g : fG) : ClassId := g.2.2.1.2.2.1
def fcH (g : fG) : ClassId := g.2.2.1.2.2.2
def fT (g : fG) : List (ClassId × FieldType) := [(fcI g, .int), (fcC g, .char), (fcR g, .object RX3), (fcH g, .object RX1)]
def fB (g : fG) : Nat → Prop := fun q => fa g 0 ≤ q
def fu (ct : Nat → va_E) (k : Nat) (e : va_E) : Nat → va_E := fun j => if j = k then e else ct j
theorem fu_eq (ct : Nat → va_E) (k : Nat) (e : va_E) : fu ct k e k = e := by simp [fu]
theorem fu_ne {ct : Nat → va_E} {k j : Nat} {e : va_E} (h : j ≠ k) : fu ct k e j = ct j := by simp [fu, h]
theorem fa_inj {g : fG} {i j : Nat} (h : fa g i = fa g j) : i = j := by unfold fa at h; omega
def fNb : Cond → Bool
  | .fieldLinkNest _ _ _ _ _ _ => true
  | .methodLinkNest _ _ _ _ => true
  | _ => false
theorem fNest_all : fNest.all fNb = true := by decide
theorem fNb_warm {w : Cond} (hw : fNb w = true) {s U : State} (hW : s.WarmedH U.vm) (h : va_Nw w s) : va_Nw w U := by
  cases w <;> first | exact va_Nw.warmF hW h | exact va_Nw.warmM hW h | (exfalso; revert hw; simp [fNb])
theorem fNb_same {w : Cond} (hw : fNb w = true) {s U : State} (hW : s.vm = U.vm) (h : va_Nw w s) : va_Nw w U := by
  cases w <;> first | exact va_Nw.same rfl hW h | (exfalso; revert hw; simp [fNb])
def fV (g : fG) (U : State) : Prop := va_K g.1 vwCl (fT g) U ∧ (∀ w ∈ fNest, va_Nw w U) ∧ va_AO RX3 U ∧ va_AO RX1 U
/-- the law's own script, outside the world -/
def fX (g : fG) (U : State) (H : Heap) : Prop := (¬ fB g g.2.2.2.1 ∧ g.2.2.2.2 ≤ 260) ∧ ∃ xs : Nat → Int32, va_X g.2.2.2.1 g.2.2.2.2 xs U H
def fP (g : fG) (N : Nat) (ct : Nat → va_E) (H : Heap) : Prop := H.size = fa g N ∧ ∀ k, k < N → va_at g.1 vwCl (fa g k, ct k) H
theorem fV.moved {g : fG} {s U : State} (hW : s.WarmedH U.vm) (h : fV g s) : fV g U :=
  ⟨va_K.moved hW.alike h.1, fun w hw => fNb_warm (List.all_eq_true.mp fNest_all w hw) hW (h.2.1 w hw), va_AO.moved hW.alike h.2.2.1, va_AO.moved hW.alike h.2.2.2⟩
theorem fV.same {g : fG} {s U : State} (hv : s.vm = U.vm) (ha : s.vm.Alike U.vm) (h : fV g s) : fV g U :=
  ⟨va_K.moved ha h.1, fun w hw => fNb_same (List.all_eq_true.mp fNest_all w hw) hv (h.2.1 w hw), va_AO.moved ha h.2.2.1, va_AO.moved ha h.2.2.2⟩
theorem va_X.inside {b L : Nat} {xs : Nat → Int32} {U : State} {H : Heap} (h : va_X b L xs U H) : b < H.size := by
  obtain ⟨scr, h1, _⟩ := h
  exact (Array.getElem?_eq_some_iff.mp h1).1
theorem fX.moved {g : fG} {s U : State} {H H1 : Heap} (ha : s.vm.Alike U.vm) (hq : ∀ a : Nat, a < H.size → ¬ fB g a → H1[a]? = H[a]?) (h : fX g s H) : fX g U H1 := by
  obtain ⟨h1, xs, h2⟩ := h
  exact ⟨h1, xs, (va_X.moved ha h2).kept (hq _ h2.inside h1.1)⟩
theorem fP_one {g : fG} {N k : Nat} {ct : Nat → va_E} {H : Heap} (hP : fP g N ct H) (hk : k < N) : va_P g.1 vwCl [(fa g k, ct k)] H := by
  intro i q hq
  match i, hq with
  | 0, hq => cases hq; exact hP.2 k hk
  | i + 1, hq => simp at hq
theorem fP_set {g : fG} {N k : Nat} {ct : Nat → va_E} {H H1 : Heap} (hP : fP g N ct H) {e : va_E} (z : H1.size = H.size) (he : va_at g.1 vwCl (fa g k, e) H1) (oq : ∀ q : Nat, q ≠ fa g k → H1[q]? = H[q]?) : fP g N (fu ct k e) H1 := by
  refine ⟨z.trans hP.1, fun j hj => ?_⟩
  by_cases h : j = k
  · subst h; rw [fu_eq]; exact he
  · rw [fu_ne h]; exact (hP.2 j hj).kept (oq _ (fun q => h (fa_inj q)))
theorem fB_in (g : fG) (k : Nat) : fB g (fa g k) := by unfold fB fa; omega
/-- the words of every method: its own code, and all that the law's tables say -/
def wsU (y : MethodName) (b : ByteArray) (n : Nat) (r : Option FieldType) : List Cond := Cond.code y b n r :: wsL_law
abbrev fE (p : Program) (m : MethodId) (c : Code) (cc : ByteArray) (nL : Nat) (s : State) (args : Array Value) (own : String) (g : fG) : Prop := CallFix p m c cc nL s args wsL_law own ∧ fV g s ∧ fX g s s.heap
/-- a contract's start -/
def fPre (g : fG) (N : Nat) (ct : Nat → va_E) (av : List Value) : Array Value → State → Prop := fun v U => v = av.toArray ∧ fV g U ∧ fX g U U.heap ∧ fP g N ct U.heap
theorem fblind {g : fG} {N : Nat} {ct : Nat → va_E} {av : List Value} : FrameBlind (fPre g N ct av) := fun _ U _ _ h => ⟨h.1, fV.same (s := U) rfl (Vm.Alike.refl U.vm) h.2.1, fX.moved (s := U) (H := U.heap) (Vm.Alike.refl U.vm) (fun _ _ _ => rfl) h.2.2.1, h.2.2.2⟩
/-- a contract's end: the answer alone; the heap stays -/
def fQpi (post : Int32 → Prop) : Array Value → State → Outcome → State → Prop := fun _ st oc t => ∃ r : Int32, oc = .returned (some (.int r)) ∧ post r ∧ t.heap = st.heap
def fQpr (post : Value → Prop) : Array Value → State → Outcome → State → Prop := fun _ st oc t => ∃ r : Value, oc = .returned (some r) ∧ post r ∧ t.heap = st.heap
def fQi (g : fG) (N : Nat) (post : Int32 → (Nat → va_E) → Prop) : Array Value → State → Outcome → State → Prop := fun _ st oc t => ∃ (r : Int32) (ct : Nat → va_E), oc = .returned (some (.int r)) ∧ post r ct ∧ fP g N ct t.heap ∧ va_F (fB g) st t
def fQr (g : fG) (N : Nat) (post : Value → (Nat → va_E) → Prop) : Array Value → State → Outcome → State → Prop := fun _ st oc t => ∃ (r : Value) (ct : Nat → va_E), oc = .returned (some r) ∧ post r ct ∧ fP g N ct t.heap ∧ va_F (fB g) st t
def fQv (g : fG) (N : Nat) (post : (Nat → va_E) → Prop) : Array Value → State → Outcome → State → Prop := fun _ st oc t => ∃ (ct : Nat → va_E), oc = .returned none ∧ post ct ∧ fP g N ct t.heap ∧ va_F (fB g) st t
/-- a class: its place, its field words, its types, its names -/
def fCls (ci : Nat) (C : String) (T : u_T) (M : Nat) (ty : Nat → FieldType) : Prop := vwCl[ci]? = some (C, T, M) ∧ (∀ w ∈ u_ws C T M, w ∈ wsL_law) ∧ (∀ k, k < M → parseFieldDescriptor (T k).2.2.1 = some (ty k)) ∧ (∀ a, a < M → ∀ b, b < M → a ≠ b → (T a).2.1 ≠ (T b).2.1)
theorem fc0 : fCls 0 RX0 TX0 3 tyX0 := ⟨rfl, inlX0, tyX0_ok, nmX0⟩
theorem fc1 : fCls 1 RX1 TX1 7 tyX1 := ⟨rfl, inlX1, tyX1_ok, nmX1⟩
theorem fc2 : fCls 2 RX2 TX2 2 tyX2 := ⟨rfl, inlX2, tyX2_ok, nmX2⟩
theorem fc3 : fCls 3 RX3 TX3 5 tyX3 := ⟨rfl, inlX3, tyX3_ok, nmX3⟩
theorem fc4 : fCls 4 RX4 TX4 2 tyX4 := ⟨rfl, inlX4, tyX4_ok, nmX4⟩
theorem fc5 : fCls 5 RX5 TX5 8 tyX5 := ⟨rfl, inlX5, tyX5_ok, nmX5⟩
theorem fc6 : fCls 6 RX6 TX6 2 tyX6 := ⟨rfl, inlX6, tyX6_ok, nmX6⟩
theorem fc7 : fCls 7 RX7 TX7 7 tyX7 := ⟨rfl, inlX7, tyX7_ok, nmX7⟩
theorem wsL_good : wsL_law.all goodWord = true := by decide +kernel
theorem fgood {y : MethodName} {b : ByteArray} {n : Nat} {r : Option FieldType} (h : Cond.code y b n r ∈ wsL_law) : GoodIn wsL_law (wsU y b n r) := by
  intro w hw
  have hm : w ∈ wsL_law := by
    rcases List.mem_cons.mp hw with rfl | h2
    · exact h
    · exact h2
  exact ⟨hm, good_of_word (List.all_eq_true.mp wsL_good w hm)⟩
theorem fgoods {ws : List Cond} (h : ∀ w ∈ ws, w ∈ wsL_law) : GoodIn wsL_law ws := fun w hw => ⟨h w hw, good_of_word (List.all_eq_true.mp wsL_good w (h w hw))⟩
theorem fgV {own C : String} {idx : Nat} {y : MethodName} {b : ByteArray} {n : Nat} {r : Option FieldType} (h1 : Cond.methodLink own idx y ∈ wsL_law) (h2 : Cond.instanceMethod y ∈ wsL_law) (h3 : Cond.selects C y y ∈ wsL_law) (h4 : Cond.initialized C ∈ wsL_law) (h5 : Cond.code y b n r ∈ wsL_law) : GoodIn wsL_law (wsV own idx C y (wsU y b n r)) :=
  goodIn_app (fgoods (by intro w hw; simp only [List.mem_cons, List.not_mem_nil, or_false] at hw; rcases hw with rfl | rfl | rfl | rfl <;> assumption)) (fgood h5)
theorem fgS {own : String} {idx : Nat} {y : MethodName} {b : ByteArray} {n : Nat} {r : Option FieldType} (h1 : Cond.methodLink own idx y ∈ wsL_law) (h2 : Cond.static y ∈ wsL_law) (h4 : Cond.initialized y.cls ∈ wsL_law) (h5 : Cond.code y b n r ∈ wsL_law) : GoodIn wsL_law (va_wsS own idx y (wsU y b n r)) :=
  goodIn_app (fgoods (by intro w hw; simp only [List.mem_cons, List.not_mem_nil, or_false] at hw; rcases hw with rfl | rfl | rfl <;> assumption)) (fgood h5)
theorem fs_start {l : Launch} {y : MethodName} {rm : Room} {av : List Value} {N : Nat} {ct : Nat → va_E} {g : fG} {Qc : Array Value → State → Outcome → State → Prop} {mc ms : Nat} {cc : ByteArray} {maxL : Nat} {ret : Option FieldType} {own : String} {lv0 : List (Nat × Value)} (hy : plainName y.cls = true) (hown : y.cls = own) (hlen : (lg_sl av).length ≤ maxL) (hlv : lv_args 0 av = lv0)
    (body : ∀ (p : Program) (e : Env) (s : State) (m : MethodId) (args : Array Value) (below : List Frame) (meth : Method) (c : Code) (ls : Array Slot), fE p m c cc maxL s args own g → meth.sig.returnType = ret → meth.locks = false → meth.name = y.name → fP g N ct s.heap → lv_has ls maxL lv0 → va_S (fB g) s.heap s.heap [] → W p l e rm s m args below meth c s.heap [] 0 0 (MQ below Qc args s mc ms (fB g)) (F0 m 0 ls [])) : Met l y (wsU y cc maxL ret) rm (fPre g N ct av) Qc mc ms (fB g) := by
  refine Met.ofW (cc := cc) (maxL := maxL) (ret := ret) hy rfl ?_
  intro p e s m args below meth c s₁ B hml hv
  obtain ⟨rfl, hV, hX, hP⟩ := hv
  have hown2 : s.vm.findClass y.cls = some m.cls := findClass_of_methodNamed B.named
  rw [hown] at hown2
  have hts : ∀ w ∈ wsL_law, w.before av.toArray s = true := fun w hw => atoms_spec (ws := wsU y cc maxL ret) B.pre w (List.mem_cons_of_mem _ hw)
  have hl := lv_entry av hlen
  rw [hlv] at hl
  rw [lg_entry_eq]
  exact body p e s m _ below meth c _ ⟨⟨B.exec, B.bytes, hml, hown2, hts⟩, hV, hX⟩ B.returns B.notSynchronized (name_of_methodNamed B.named B.method).1 hP hl va_S.rf
section FS
variable {p : Program} {l : Launch} {e : Env} {R : Room} {s : State} {m : MethodId} {args : Array Value} {below : List Frame} {meth : Method} {c : Code} {H : Heap} {locs : List Loc} {cells slots : Nat} {Q : State → Prop}
variable {cc : ByteArray} {pc nL : Nat} {ls : Array Slot} {rest : List Value} {g : fG} {N : Nat} {ct : Nat → va_E} {own : String}
theorem fs_get (E : fE p m c cc nL s args own g) (hP : fP g N ct H) {C : String} {T : u_T} {M ci idx k : Nat} {ty : Nat → FieldType} {fs : List Value} {v : Value} (i : Nat) (hC : fCls ci C T M ty) (hc : ct k = .inr (ci, fs)) (hk : k < N) (hi : i < M) (hlink : Cond.fieldLink own idx (T i).1 (T i).2.1 (T i).2.2.1 ∈ wsL_law) (hv : fs[i]? = some v) (hdg : decode cc pc = .ok (.getfield idx, 3))
    (kk : W p l e R s m args below meth c H locs cells slots Q (F0 m (pc + 3) ls (v :: rest))) : W p l e R s m args below meth c H locs cells slots Q (F0 m pc ls (.ref (fa g k) :: rest)) :=
  va_get (D := g.1) (cl := vwCl) (ws := [(fa g k, ct k)]) (tys := fT g) E.1.1 E.1.2.1 E.1.2.2.2.2 hC.2.1 E.1.2.2.2.1 E.2.1.1 (fP_one hP hk) 0 (by rw [hc]; rfl) hC.1 i hi (E.1.2.2.2.2 _ hlink) (fun _ h => h) hv hdg kk
theorem fs_getN (E : fE p m c cc nL s args own g) (hP : fP g N ct H) {C host : String} {T : u_T} {M ci idx k : Nat} {ty : Nat → FieldType} {fs : List Value} {v : Value} (i : Nat) (hC : fCls ci C T M ty) (hc : ct k = .inr (ci, fs)) (hk : k < N) (hi : i < M) {j : Nat} (hlink : fNest[j]? = some (Cond.fieldLinkNest own idx (T i).1 (T i).2.1 (T i).2.2.1 host)) (hv : fs[i]? = some v) (hdg : decode cc pc = .ok (.getfield idx, 3))
    (kk : W p l e R s m args below meth c H locs cells slots Q (F0 m (pc + 3) ls (v :: rest))) : W p l e R s m args below meth c H locs cells slots Q (F0 m pc ls (.ref (fa g k) :: rest)) :=
  va_getN (D := g.1) (cl := vwCl) (ws := [(fa g k, ct k)]) (tys := fT g) E.1.1 E.1.2.1 E.1.2.2.2.2 hC.2.1 E.1.2.2.2.1 E.2.1.1 (fP_one hP hk) 0 (by rw [hc]; rfl) hC.1 i hi (va_Nw.use rfl (E.2.1.2.1 _ (List.mem_of_getElem? hlink))) (fun _ h => h) hv hdg kk
theorem fs_put (E : fE p m c cc nL s args own g) (hP : fP g N ct H) (hS0 : va_S (fB g) s.heap H locs) {C : String} {T : u_T} {M ci idx k : Nat} {ty0 : Nat → FieldType} {fs : List Value} {ty : FieldType} {v : Value} (i : Nat) (hC : fCls ci C T M ty0) (hc : ct k = .inr (ci, fs)) (hk : k < N) (hi : i < M) (hlink : Cond.fieldLink own idx (T i).1 (T i).2.1 (T i).2.2.1 ∈ wsL_law) (hfin : (T i).2.2.2 = false) (hd : ty0 i = ty) (hn : narrow ty v = v) (hfit : fits ty v = true) (hl : i < fs.length) (hdg : decode cc pc = .ok (.putfield idx, 3))
    (kk : ∀ (ct1 : Nat → va_E) (H1 : Heap) (locs1 : List Loc), ct1 = fu ct k (.inr (ci, fs.set i v)) → fP g N ct1 H1 → va_S (fB g) s.heap H1 locs1 → W p l e R s m args below meth c H1 locs1 cells slots Q (F0 m (pc + 3) ls rest)) : W p l e R s m args below meth c H locs cells slots Q (F0 m pc ls (v :: .ref (fa g k) :: rest)) := by
  obtain ⟨hcl, hin, hty, hnm⟩ := hC
  subst hd
  have hap := va_apart (own := own) E.1.2.2.2.2 hin ty0 hty hnm E.2.1.1 hcl
  obtain ⟨r, h1, cell, q1, q2, q3, q4⟩ := fP_one hP hk 0 (fa g k, .inr (ci, fs)) (by rw [hc]; rfl)
  have hr : r = (C, T, M) := Option.some.inj (h1.symm.trans hcl)
  subst hr
  obtain ⟨hS, hfc, kC, hkC, hkind⟩ := E.2.1.1.1 ci _ hcl
  obtain ⟨cf, kf, fi, f, hif, hsl⟩ := hS i hi
  have hlay := E.1.2.2.2.2 _ (hin _ (u_in_lay hi))
  unfold u_lay at hlay
  rw [if_neg (by rw [hfin]; decide)] at hlay
  have hst := (u_facts hfc hkC (u_lays E.1.2.2.2.2 hin hi) hif).1
  have h6 := u_store hfc hkC hkind hlay hif (hty i hi) hn hfit
  refine W.putK E.1.1 E.1.2.1 (f := f) ⟨E.1.2.2.2.1, E.1.2.2.2.2 _ hlink, ⟨_, _, _, hif⟩, hst⟩ (by rw [q2]; exact h6) q1 q3 (by rw [hsl]; exact k2_hasslot (q4 i hi)) rfl rfl hdg fun H' e1 e2 e3 => ?_
  rw [hsl] at e1 ⊢
  exact kk _ H' _ rfl (fP_set hP e2 ⟨_, hcl, t_OB.to (V := updV (vp_V fs) i v) ⟨_, e1, q2, q3, t_set q4 hap hi v⟩ (fun j _ => vp_updV_set hl v j)⟩ e3) (hS0.put e2 e3 (fB_in g k))
theorem fs_putN (E : fE p m c cc nL s args own g) (hP : fP g N ct H) (hS0 : va_S (fB g) s.heap H locs) {C host : String} {T : u_T} {M ci idx k : Nat} {ty0 : Nat → FieldType} {fs : List Value} {ty : FieldType} {v : Value} (i : Nat) (hC : fCls ci C T M ty0) (hc : ct k = .inr (ci, fs)) (hk : k < N) (hi : i < M) {j : Nat} (hlink : fNest[j]? = some (Cond.fieldLinkNest own idx (T i).1 (T i).2.1 (T i).2.2.1 host)) (hfin : (T i).2.2.2 = false) (hd : ty0 i = ty) (hn : narrow ty v = v) (hfit : fits ty v = true) (hl : i < fs.length) (hdg : decode cc pc = .ok (.putfield idx, 3))
    (kk : ∀ (ct1 : Nat → va_E) (H1 : Heap) (locs1 : List Loc), ct1 = fu ct k (.inr (ci, fs.set i v)) → fP g N ct1 H1 → va_S (fB g) s.heap H1 locs1 → W p l e R s m args below meth c H1 locs1 cells slots Q (F0 m (pc + 3) ls rest)) : W p l e R s m args below meth c H locs cells slots Q (F0 m pc ls (v :: .ref (fa g k) :: rest)) := by
  obtain ⟨hcl, hin, hty, hnm⟩ := hC
  subst hd
  have hap := va_apart (own := own) E.1.2.2.2.2 hin ty0 hty hnm E.2.1.1 hcl
  obtain ⟨r, h1, cell, q1, q2, q3, q4⟩ := fP_one hP hk 0 (fa g k, .inr (ci, fs)) (by rw [hc]; rfl)
  have hr : r = (C, T, M) := Option.some.inj (h1.symm.trans hcl)
  subst hr
  obtain ⟨hS, hfc, kC, hkC, hkind⟩ := E.2.1.1.1 ci _ hcl
  obtain ⟨cf, kf, fi, f, hif, hsl⟩ := hS i hi
  have hlay := E.1.2.2.2.2 _ (hin _ (u_in_lay hi))
  unfold u_lay at hlay
  rw [if_neg (by rw [hfin]; decide)] at hlay
  have hst := (u_facts hfc hkC (u_lays E.1.2.2.2.2 hin hi) hif).1
  have h6 := u_store hfc hkC hkind hlay hif (hty i hi) hn hfit
  refine va_WputK E.1.1 E.1.2.1 (f := f) E.1.2.2.2.1 (va_Nw.use rfl (E.2.1.2.1 _ (List.mem_of_getElem? hlink))) hif hst (by rw [q2]; exact h6) q1 q3 (by rw [hsl]; exact k2_hasslot (q4 i hi)) rfl rfl hdg fun H' e1 e2 e3 => ?_
  rw [hsl] at e1 ⊢
  exact kk _ H' _ rfl (fP_set hP e2 ⟨_, hcl, t_OB.to (V := updV (vp_V fs) i v) ⟨_, e1, q2, q3, t_set q4 hap hi v⟩ (fun j _ => vp_updV_set hl v j)⟩ e3) (hS0.put e2 e3 (fB_in g k))
theorem fs_putF (E : fE p m c cc nL s args own g) (hin2 : meth.name = "<init>") (hP : fP g N ct H) (hS0 : va_S (fB g) s.heap H locs) {C : String} {T : u_T} {M ci idx k : Nat} {ty0 : Nat → FieldType} {fs : List Value} {ty : FieldType} {v : Value} (i : Nat) (hC : fCls ci C T M ty0) (hc : ct k = .inr (ci, fs)) (hk : k < N) (hi : i < M) (hlink : Cond.fieldLink own idx (T i).1 (T i).2.1 (T i).2.2.1 ∈ wsL_law) (hfin : (T i).2.2.2 = true) (hdecl : (T i).1 = own) (hd : ty0 i = ty) (hn : narrow ty v = v) (hfit : fits ty v = true) (hl : i < fs.length) (hdg : decode cc pc = .ok (.putfield idx, 3))
    (kk : ∀ (ct1 : Nat → va_E) (H1 : Heap) (locs1 : List Loc), ct1 = fu ct k (.inr (ci, fs.set i v)) → fP g N ct1 H1 → va_S (fB g) s.heap H1 locs1 → W p l e R s m args below meth c H1 locs1 cells slots Q (F0 m (pc + 3) ls rest)) : W p l e R s m args below meth c H locs cells slots Q (F0 m pc ls (v :: .ref (fa g k) :: rest)) := by
  obtain ⟨hcl, hin, hty, hnm⟩ := hC
  subst hd
  have hap := va_apart (own := own) E.1.2.2.2.2 hin ty0 hty hnm E.2.1.1 hcl
  obtain ⟨r, h1, cell, q1, q2, q3, q4⟩ := fP_one hP hk 0 (fa g k, .inr (ci, fs)) (by rw [hc]; rfl)
  have hr : r = (C, T, M) := Option.some.inj (h1.symm.trans hcl)
  subst hr
  obtain ⟨hS, hfc, kC, hkC, hkind⟩ := E.2.1.1.1 ci _ hcl
  obtain ⟨cf, kf, fi, f, hif, hsl⟩ := hS i hi
  have hlay := E.1.2.2.2.2 _ (hin _ (u_in_lay hi))
  unfold u_lay at hlay
  rw [if_pos hfin] at hlay
  have hst := (u_facts hfc hkC (u_lays E.1.2.2.2.2 hin hi) hif).1
  have hcf : m.cls = cf := by
    obtain ⟨_, _, c', _, _, _, -, -, hf', -, -, -, hown2, -⟩ := Cond.laysFinal_spec hlay
    have e1 : c' = cf := by have := hif.symm.trans hf'; simp at this; exact this.1.symm
    rw [hdecl] at hown2
    rw [← e1]; exact Option.some.inj (E.1.2.2.2.1.symm.trans hown2)
  have h6 := u_fits hfc hkC hkind (Or.inr hlay) hif (hty i hi) hn hfit
  refine W.putFinK E.1.1 E.1.2.1 E.1.2.2.2.1 (E.1.2.2.2.2 _ hlink) hif hst hcf hin2 (by rw [q2]; exact h6) q1 q3 (by rw [hsl]; exact k2_hasslot (q4 i hi)) rfl rfl hdg fun H' e1 e2 e3 => ?_
  rw [hsl] at e1 ⊢
  exact kk _ H' _ rfl (fP_set hP e2 ⟨_, hcl, t_OB.to (V := updV (vp_V fs) i v) ⟨_, e1, q2, q3, t_set q4 hap hi v⟩ (fun j _ => vp_updV_set hl v j)⟩ e3) (hS0.put e2 e3 (fB_in g k))
theorem fs_iald (E : fE p m c cc nL s args own g) (hP : fP g N ct H) {k n : Nat} {f : Nat → Int32} {i : Int32} (hc : ct k = .inl (fcI g, n, .inl f)) (hk : k < N) (hin : vp_in i n) (hdg : decode cc pc = .ok (.iaload, 1))
    (kk : W p l e R s m args below meth c H locs cells slots Q (F0 m (pc + 1) ls (.int (f i.toNatClampNeg) :: rest))) : W p l e R s m args below meth c H locs cells slots Q (F0 m pc ls (.int i :: .ref (fa g k) :: rest)) :=
  va_iald (D := g.1) (cl := vwCl) (ws := [(fa g k, ct k)]) (tys := fT g) E.1.1 E.1.2.1 E.2.1.1 (fP_one hP hk) 0 0 (by rw [hc]; rfl) rfl hin hdg kk
theorem fs_cald (E : fE p m c cc nL s args own g) (hP : fP g N ct H) {k n : Nat} {f : Nat → Int32} {i : Int32} (hc : ct k = .inl (fcC g, n, .inl f)) (hk : k < N) (hin : vp_in i n) (hdg : decode cc pc = .ok (.caload, 1))
    (kk : W p l e R s m args below meth c H locs cells slots Q (F0 m (pc + 1) ls (.int (f i.toNatClampNeg) :: rest))) : W p l e R s m args below meth c H locs cells slots Q (F0 m pc ls (.int i :: .ref (fa g k) :: rest)) :=
  va_cald (D := g.1) (cl := vwCl) (ws := [(fa g k, ct k)]) (tys := fT g) E.1.1 E.1.2.1 E.2.1.1 (fP_one hP hk) 0 1 (by rw [hc]; rfl) rfl hin hdg kk
theorem fs_aaldR (E : fE p m c cc nL s args own g) (hP : fP g N ct H) {k n : Nat} {f : Nat → Option Nat} {i : Int32} (hc : ct k = .inl (fcR g, n, .inr (.inr (.inr (.inr f))))) (hk : k < N) (hin : vp_in i n) (hdg : decode cc pc = .ok (.aaload, 1))
    (kk : W p l e R s m args below meth c H locs cells slots Q (F0 m (pc + 1) ls (va_rf (f i.toNatClampNeg) :: rest))) : W p l e R s m args below meth c H locs cells slots Q (F0 m pc ls (.int i :: .ref (fa g k) :: rest)) :=
  va_aldq (D := g.1) (cl := vwCl) (ws := [(fa g k, ct k)]) (tys := fT g) E.1.1 E.1.2.1 E.2.1.1 (fP_one hP hk) 0 2 (by rw [hc]; rfl) rfl hin hdg kk
theorem fs_aaldH (E : fE p m c cc nL s args own g) (hP : fP g N ct H) {k n : Nat} {f : Nat → Option Nat} {i : Int32} (hc : ct k = .inl (fcH g, n, .inr (.inr (.inr (.inr f))))) (hk : k < N) (hin : vp_in i n) (hdg : decode cc pc = .ok (.aaload, 1))
    (kk : W p l e R s m args below meth c H locs cells slots Q (F0 m (pc + 1) ls (va_rf (f i.toNatClampNeg) :: rest))) : W p l e R s m args below meth c H locs cells slots Q (F0 m pc ls (.int i :: .ref (fa g k) :: rest)) :=
  va_aldq (D := g.1) (cl := vwCl) (ws := [(fa g k, ct k)]) (tys := fT g) E.1.1 E.1.2.1 E.2.1.1 (fP_one hP hk) 0 3 (by rw [hc]; rfl) rfl hin hdg kk
theorem fs_alenI (E : fE p m c cc nL s args own g) (hP : fP g N ct H) {k n : Nat} {x : (Nat → Int32) ⊕ (Nat → Int64) ⊕ (Nat → UInt32) ⊕ (Nat → UInt64) ⊕ (Nat → Option Nat)} (hc : ct k = .inl (fcI g, n, x)) (hk : k < N) (hdg : decode cc pc = .ok (.arraylength, 1))
    (kk : W p l e R s m args below meth c H locs cells slots Q (F0 m (pc + 1) ls (.int (nI n) :: rest))) : W p l e R s m args below meth c H locs cells slots Q (F0 m pc ls (.ref (fa g k) :: rest)) :=
  va_alen (D := g.1) (cl := vwCl) (ws := [(fa g k, ct k)]) (tys := fT g) (x := (n, x)) E.1.1 E.1.2.1 E.2.1.1 (fP_one hP hk) 0 0 (by rw [hc]; rfl) rfl rfl hdg kk
theorem fs_alenC (E : fE p m c cc nL s args own g) (hP : fP g N ct H) {k n : Nat} {x : (Nat → Int32) ⊕ (Nat → Int64) ⊕ (Nat → UInt32) ⊕ (Nat → UInt64) ⊕ (Nat → Option Nat)} (hc : ct k = .inl (fcC g, n, x)) (hk : k < N) (hdg : decode cc pc = .ok (.arraylength, 1))
    (kk : W p l e R s m args below meth c H locs cells slots Q (F0 m (pc + 1) ls (.int (nI n) :: rest))) : W p l e R s m args below meth c H locs cells slots Q (F0 m pc ls (.ref (fa g k) :: rest)) :=
  va_alen (D := g.1) (cl := vwCl) (ws := [(fa g k, ct k)]) (tys := fT g) (x := (n, x)) E.1.1 E.1.2.1 E.2.1.1 (fP_one hP hk) 0 1 (by rw [hc]; rfl) rfl rfl hdg kk
theorem fs_alenR (E : fE p m c cc nL s args own g) (hP : fP g N ct H) {k n : Nat} {x : (Nat → Int32) ⊕ (Nat → Int64) ⊕ (Nat → UInt32) ⊕ (Nat → UInt64) ⊕ (Nat → Option Nat)} (hc : ct k = .inl (fcR g, n, x)) (hk : k < N) (hdg : decode cc pc = .ok (.arraylength, 1))
    (kk : W p l e R s m args below meth c H locs cells slots Q (F0 m (pc + 1) ls (.int (nI n) :: rest))) : W p l e R s m args below meth c H locs cells slots Q (F0 m pc ls (.ref (fa g k) :: rest)) :=
  va_alen (D := g.1) (cl := vwCl) (ws := [(fa g k, ct k)]) (tys := fT g) (x := (n, x)) E.1.1 E.1.2.1 E.2.1.1 (fP_one hP hk) 0 2 (by rw [hc]; rfl) rfl rfl hdg kk
theorem fs_alenH (E : fE p m c cc nL s args own g) (hP : fP g N ct H) {k n : Nat} {x : (Nat → Int32) ⊕ (Nat → Int64) ⊕ (Nat → UInt32) ⊕ (Nat → UInt64) ⊕ (Nat → Option Nat)} (hc : ct k = .inl (fcH g, n, x)) (hk : k < N) (hdg : decode cc pc = .ok (.arraylength, 1))
    (kk : W p l e R s m args below meth c H locs cells slots Q (F0 m (pc + 1) ls (.int (nI n) :: rest))) : W p l e R s m args below meth c H locs cells slots Q (F0 m pc ls (.ref (fa g k) :: rest)) :=
  va_alen (D := g.1) (cl := vwCl) (ws := [(fa g k, ct k)]) (tys := fT g) (x := (n, x)) E.1.1 E.1.2.1 E.2.1.1 (fP_one hP hk) 0 3 (by rw [hc]; rfl) rfl rfl hdg kk
theorem fs_iast (E : fE p m c cc nL s args own g) (hP : fP g N ct H) (hS : va_S (fB g) s.heap H locs) {k n : Nat} {f : Nat → Int32} {i x : Int32} (hc : ct k = .inl (fcI g, n, .inl f)) (hk : k < N) (hin : vp_in i n) (hdg : decode cc pc = .ok (.iastore, 1))
    (kk : ∀ (ct1 : Nat → va_E) (H1 : Heap) (locs1 : List Loc), ct1 = fu ct k (.inl (fcI g, n, .inl (upd f i.toNatClampNeg x))) → fP g N ct1 H1 → va_S (fB g) s.heap H1 locs1 → W p l e R s m args below meth c H1 locs1 cells slots Q (F0 m (pc + 1) ls rest)) : W p l e R s m args below meth c H locs cells slots Q (F0 m pc ls (.int x :: .int i :: .ref (fa g k) :: rest)) := by
  have ha : va_at g.1 vwCl (fa g k, .inl (fcI g, n, .inl f)) H := by rw [← hc]; exact hP.2 k hk
  refine W.iast E.1.1 E.1.2.1 ha ((E.2.1.1.2 0 (fcI g, .int) rfl).1 n (fun j => .int (f j))) (fun q => by cases q) (by show ¬ (i < 0 ∨ (arrV _ _ _).slots.size ≤ _); rw [arrV_size]; exact hin) rfl rfl hdg fun H1 e z oq => ?_
  refine kk _ H1 _ rfl (fP_set hP z ?_ oq) (hS.put z oq (fB_in g k))
  show H1[fa g k]? = some (vp_cell _ _)
  rw [e]
  rw [vp_cell_i, vp_cell_i, arrV_store]
  congr 2
  funext q
  by_cases hq : q = i.toNatClampNeg
  · subst hq
    simp [updV, upd]
  · simp [updV, upd, hq]
theorem fs_cast (E : fE p m c cc nL s args own g) (hP : fP g N ct H) (hS : va_S (fB g) s.heap H locs) {k n : Nat} {f : Nat → Int32} {i x : Int32} (hc : ct k = .inl (fcC g, n, .inl f)) (hk : k < N) (hin : vp_in i n) (hnx : narrow .char (.int x) = .int x) (hdg : decode cc pc = .ok (.castore, 1))
    (kk : ∀ (ct1 : Nat → va_E) (H1 : Heap) (locs1 : List Loc), ct1 = fu ct k (.inl (fcC g, n, .inl (upd f i.toNatClampNeg x))) → fP g N ct1 H1 → va_S (fB g) s.heap H1 locs1 → W p l e R s m args below meth c H1 locs1 cells slots Q (F0 m (pc + 1) ls rest)) : W p l e R s m args below meth c H locs cells slots Q (F0 m pc ls (.int x :: .int i :: .ref (fa g k) :: rest)) := by
  have ha : va_at g.1 vwCl (fa g k, .inl (fcC g, n, .inl f)) H := by rw [← hc]; exact hP.2 k hk
  refine W.cast E.1.1 E.1.2.1 ha ((E.2.1.1.2 1 (fcC g, .char) rfl).1 n (fun j => .int (f j))) (fun q => by cases q) (by show ¬ (i < 0 ∨ (arrV _ _ _).slots.size ≤ _); rw [arrV_size]; exact hin) rfl rfl hdg fun H1 e z oq => ?_
  refine kk _ H1 _ rfl (fP_set hP z ?_ oq) (hS.put z oq (fB_in g k))
  show H1[fa g k]? = some (vp_cell _ _)
  rw [e]
  rw [vp_cell_i, vp_cell_i, arrV_store]
  congr 2
  funext q
  by_cases hq : q = i.toNatClampNeg
  · subst hq
    simp [updV, upd, hnx]
  · simp [updV, upd, hq]
/-- what a call asks -/
theorem fpreV (E : fE p m c cc nL s args own g) (hP : fP g N ct H) (hS : va_S (fB g) s.heap H locs) {ci M k : Nat} {C : String} {T : u_T} {ty : Nat → FieldType} {fs : List Value} (hC : fCls ci C T M ty) (hc : ct k = .inr (ci, fs)) (hk : k < N) {As : List Value} : PreV s H C (fa g k) (fPre g N ct (.ref (fa g k) :: As)) As :=
  ⟨fblind, va_recv (q0 := 0) E.2.1.1 (fP_one hP hk) hC.1 (by rw [hc]; rfl), fun U hU hW => ⟨rfl, E.2.1.moved hW, by rw [hU]; exact fX.moved hW.alike hS.2.1 E.2.2, by rw [hU]; exact hP⟩⟩
theorem fpreS (E : fE p m c cc nL s args own g) (hP : fP g N ct H) (hS : va_S (fB g) s.heap H locs) {As : List Value} : PreS s H (fPre g N ct As) As :=
  ⟨fblind, fun U hU hW => ⟨rfl, E.2.1.moved hW, by rw [hU]; exact fX.moved hW.alike hS.2.1 E.2.2, by rw [hU]; exact hP⟩⟩
theorem flocs {L : List Loc} (hS : va_S (fB g) s.heap H locs) (hL : ∀ q ∈ L, fB g q.base) : ∀ q ∈ locs ++ L, fB g q.base := by
  intro q hq
  rcases List.mem_append.mp hq with h | h
  · exact hS.2.2 q h
  · exact hL q h
variable {a : Array Value} {st0 : List Value} {mc ms N1 : Nat}
theorem fs_pi {post : Int32 → Prop} (hr : va_Run p l e R s m args below meth c H locs cells slots 0 0 (F0 m pc ls st0) rest (fQpi post a) (fB g)) (hS : va_S (fB g) s.heap H locs)
    (kk : ∀ (r : Int32) (locs1 : List Loc), post r → va_S (fB g) s.heap H locs1 → W p l e R s m args below meth c H locs1 cells slots Q (F0 m (pc + 3) ls (.int r :: rest))) : W p l e R s m args below meth c H locs cells slots Q (F0 m pc ls st0) := by
  intro T hT X
  obtain ⟨v, st₀, t, T', L, h0, X', hL, e1, e2, ⟨r, hv, hp, hh⟩, st⟩ := hr T hT X
  cases hv
  obtain ⟨t2, a1, b1⟩ := kk r (locs ++ L) hp ⟨hS.1, hS.2.1, flocs hS hL⟩ T' (by rw [e1, hh, h0]) X'
  exact ⟨t2, st t2 a1, b1⟩
theorem fs_pr {post : Value → Prop} (hr : va_Run p l e R s m args below meth c H locs cells slots 0 0 (F0 m pc ls st0) rest (fQpr post a) (fB g)) (hS : va_S (fB g) s.heap H locs)
    (kk : ∀ (r : Value) (locs1 : List Loc), post r → va_S (fB g) s.heap H locs1 → W p l e R s m args below meth c H locs1 cells slots Q (F0 m (pc + 3) ls (r :: rest))) : W p l e R s m args below meth c H locs cells slots Q (F0 m pc ls st0) := by
  intro T hT X
  obtain ⟨v, st₀, t, T', L, h0, X', hL, e1, e2, ⟨r, hv, hp, hh⟩, st⟩ := hr T hT X
  cases hv
  obtain ⟨t2, a1, b1⟩ := kk r (locs ++ L) hp ⟨hS.1, hS.2.1, flocs hS hL⟩ T' (by rw [e1, hh, h0]) X'
  exact ⟨t2, st t2 a1, b1⟩
theorem fs_i {post : Int32 → (Nat → va_E) → Prop} (hr : va_Run p l e R s m args below meth c H locs cells slots mc ms (F0 m pc ls st0) rest (fQi g N1 post a) (fB g)) (hS : va_S (fB g) s.heap H locs)
    (kk : ∀ (r : Int32) (ct1 : Nat → va_E) (H1 : Heap) (locs1 : List Loc), post r ct1 → fP g N1 ct1 H1 → va_S (fB g) s.heap H1 locs1 → W p l e R s m args below meth c H1 locs1 (cells + mc) (slots + ms) Q (F0 m (pc + 3) ls (.int r :: rest))) : W p l e R s m args below meth c H locs cells slots Q (F0 m pc ls st0) := by
  intro T hT X
  obtain ⟨v, st₀, t, T', L, h0, X', hL, e1, e2, ⟨r, ct1, hv, hp, hP1, hz, hk⟩, st⟩ := hr T hT X
  cases hv
  rw [h0] at hz hk
  obtain ⟨t2, a1, b1⟩ := kk r ct1 T'.heap (locs ++ L) hp (by rw [e1]; exact hP1) ⟨Nat.le_trans hS.1 (by rw [e1]; exact hz), fun q h1 h2 => by rw [e1, hk q (Nat.lt_of_lt_of_le h1 hS.1) h2]; exact hS.2.1 q h1 h2, flocs hS hL⟩ T' rfl X'
  exact ⟨t2, st t2 a1, b1⟩
theorem fs_r {post : Value → (Nat → va_E) → Prop} (hr : va_Run p l e R s m args below meth c H locs cells slots mc ms (F0 m pc ls st0) rest (fQr g N1 post a) (fB g)) (hS : va_S (fB g) s.heap H locs)
    (kk : ∀ (r : Value) (ct1 : Nat → va_E) (H1 : Heap) (locs1 : List Loc), post r ct1 → fP g N1 ct1 H1 → va_S (fB g) s.heap H1 locs1 → W p l e R s m args below meth c H1 locs1 (cells + mc) (slots + ms) Q (F0 m (pc + 3) ls (r :: rest))) : W p l e R s m args below meth c H locs cells slots Q (F0 m pc ls st0) := by
  intro T hT X
  obtain ⟨v, st₀, t, T', L, h0, X', hL, e1, e2, ⟨r, ct1, hv, hp, hP1, hz, hk⟩, st⟩ := hr T hT X
  cases hv
  rw [h0] at hz hk
  obtain ⟨t2, a1, b1⟩ := kk r ct1 T'.heap (locs ++ L) hp (by rw [e1]; exact hP1) ⟨Nat.le_trans hS.1 (by rw [e1]; exact hz), fun q h1 h2 => by rw [e1, hk q (Nat.lt_of_lt_of_le h1 hS.1) h2]; exact hS.2.1 q h1 h2, flocs hS hL⟩ T' rfl X'
  exact ⟨t2, st t2 a1, b1⟩
theorem fs_v {post : (Nat → va_E) → Prop} (hr : va_Run p l e R s m args below meth c H locs cells slots mc ms (F0 m pc ls st0) rest (fQv g N1 post a) (fB g)) (hS : va_S (fB g) s.heap H locs)
    (kk : ∀ (ct1 : Nat → va_E) (H1 : Heap) (locs1 : List Loc), post ct1 → fP g N1 ct1 H1 → va_S (fB g) s.heap H1 locs1 → W p l e R s m args below meth c H1 locs1 (cells + mc) (slots + ms) Q (F0 m (pc + 3) ls rest)) : W p l e R s m args below meth c H locs cells slots Q (F0 m pc ls st0) := by
  intro T hT X
  obtain ⟨v, st₀, t, T', L, h0, X', hL, e1, e2, ⟨ct1, hv, hp, hP1, hz, hk⟩, st⟩ := hr T hT X
  cases hv
  rw [h0] at hz hk
  obtain ⟨t2, a1, b1⟩ := kk ct1 T'.heap (locs ++ L) hp (by rw [e1]; exact hP1) ⟨Nat.le_trans hS.1 (by rw [e1]; exact hz), fun q h1 h2 => by rw [e1, hk q (Nat.lt_of_lt_of_le h1 hS.1) h2]; exact hS.2.1 q h1 h2, flocs hS hL⟩ T' rfl X'
  exact ⟨t2, st t2 a1, b1⟩
/-- ends -/
theorem fs_piret {post : Int32 → Prop} {v : Int32} (E : fE p m c cc nL s args own g) (hr : meth.sig.returnType = some .int) (hlk : meth.locks = false) (hS : va_S (fB g) s.heap s.heap locs) (hdg : decode cc pc = .ok (.ireturn, 1)) (hp : post v) : W p l e R s m args below meth c s.heap locs 0 0 (MQ below (fQpi post) args s 0 0 (fB g)) (F0 m pc ls [.int v]) :=
  W.iret E.1.1 E.1.2.1 hr (fun t ht _ => ⟨v, rfl, hp, ht⟩) hS.2.2 hdg hlk
theorem fs_pzret {post : Int32 → Prop} {v : Int32} {ty : FieldType} (E : fE p m c cc nL s args own g) (hr : meth.sig.returnType = some ty) (hn : narrow ty (.int v) = .int v) (hlk : meth.locks = false) (hS : va_S (fB g) s.heap s.heap locs) (hdg : decode cc pc = .ok (.ireturn, 1)) (hp : post v) : W p l e R s m args below meth c s.heap locs 0 0 (MQ below (fQpi post) args s 0 0 (fB g)) (F0 m pc ls [.int v]) :=
  W.zret E.1.1 E.1.2.1 hr hn (fun t ht _ => ⟨v, rfl, hp, ht⟩) hS.2.2 hdg hlk
theorem fs_paret {post : Value → Prop} {v : Value} {C : String} (E : fE p m c cc nL s args own g) (hr : meth.sig.returnType = some (.object C)) (hv : v = .null ∨ ∃ a, v = .ref a) (hlk : meth.locks = false) (hS : va_S (fB g) s.heap s.heap locs) (hdg : decode cc pc = .ok (.areturn, 1)) (hp : post v) : W p l e R s m args below meth c s.heap locs 0 0 (MQ below (fQpr post) args s 0 0 (fB g)) (F0 m pc ls [v]) :=
  W.aret E.1.1 E.1.2.1 hr (Or.inl ⟨_, rfl⟩) hv (fun t ht _ => ⟨v, rfl, hp, ht⟩) hS.2.2 hdg hlk
theorem fs_iret {post : Int32 → (Nat → va_E) → Prop} {v : Int32} (E : fE p m c cc nL s args own g) (hr : meth.sig.returnType = some .int) (hlk : meth.locks = false) (hP : fP g N ct H) (hS : va_S (fB g) s.heap H locs) (hdg : decode cc pc = .ok (.ireturn, 1)) (hp : post v ct) : W p l e R s m args below meth c H locs mc ms (MQ below (fQi g N post) args s mc ms (fB g)) (F0 m pc ls [.int v]) :=
  W.iret E.1.1 E.1.2.1 hr (fun t ht _ => ⟨v, ct, rfl, hp, by rw [ht]; exact hP, hS.F ht⟩) hS.2.2 hdg hlk
theorem fs_zret {post : Int32 → (Nat → va_E) → Prop} {v : Int32} {ty : FieldType} (E : fE p m c cc nL s args own g) (hr : meth.sig.returnType = some ty) (hn : narrow ty (.int v) = .int v) (hlk : meth.locks = false) (hP : fP g N ct H) (hS : va_S (fB g) s.heap H locs) (hdg : decode cc pc = .ok (.ireturn, 1)) (hp : post v ct) : W p l e R s m args below meth c H locs mc ms (MQ below (fQi g N post) args s mc ms (fB g)) (F0 m pc ls [.int v]) :=
  W.zret E.1.1 E.1.2.1 hr hn (fun t ht _ => ⟨v, ct, rfl, hp, by rw [ht]; exact hP, hS.F ht⟩) hS.2.2 hdg hlk
theorem fs_vret {post : (Nat → va_E) → Prop} (E : fE p m c cc nL s args own g) (hr : meth.sig.returnType = none) (hlk : meth.locks = false) (hP : fP g N ct H) (hS : va_S (fB g) s.heap H locs) (hdg : decode cc pc = .ok (.return_, 1)) (hp : post ct) : W p l e R s m args below meth c H locs mc ms (MQ below (fQv g N post) args s mc ms (fB g)) (F0 m pc ls []) :=
  W.vret E.1.1 E.1.2.1 hr (fun t ht _ => ⟨ct, rfl, hp, by rw [ht]; exact hP, hS.F ht⟩) hS.2.2 hdg hlk
theorem fs_aret {post : Value → (Nat → va_E) → Prop} {v : Value} {C : String} (E : fE p m c cc nL s args own g) (hr : meth.sig.returnType = some (.object C)) (hv : v = .null ∨ ∃ a, v = .ref a) (hlk : meth.locks = false) (hP : fP g N ct H) (hS : va_S (fB g) s.heap H locs) (hdg : decode cc pc = .ok (.areturn, 1)) (hp : post v ct) : W p l e R s m args below meth c H locs mc ms (MQ below (fQr g N post) args s mc ms (fB g)) (F0 m pc ls [v]) :=
  W.aret E.1.1 E.1.2.1 hr (Or.inl ⟨_, rfl⟩) hv (fun t ht _ => ⟨v, ct, rfl, hp, by rw [ht]; exact hP, hS.F ht⟩) hS.2.2 hdg hlk
/-- a value by another name -/
theorem fs_vi {x y : Int32} (h : x = y) (kk : W p l e R s m args below meth c H locs cells slots Q (F0 m pc ls (.int y :: rest))) : W p l e R s m args below meth c H locs cells slots Q (F0 m pc ls (.int x :: rest)) := h ▸ kk
theorem fs_vv {x y : Value} (h : x = y) (kk : W p l e R s m args below meth c H locs cells slots Q (F0 m pc ls (y :: rest))) : W p l e R s m args below meth c H locs cells slots Q (F0 m pc ls (x :: rest)) := h ▸ kk
end FS

