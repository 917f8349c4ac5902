/-! the reference: its object at 239, its rows at 240 .. 248 -/
def uF (F : Nat → Nat → Int32) (i : Nat) (f : Nat → Int32) : Nat → Nat → Int32 := fun j => if j = i then f else F j
theorem uF_eq (F : Nat → Nat → Int32) (i : Nat) (f : Nat → Int32) : uF F i f i = f := if_pos rfl
theorem uF_ne {F : Nat → Nat → Int32} {i j : Nat} {f : Nat → Int32} (h : j ≠ i) : uF F i f j = F j := if_neg h
def MA (g : fG) (ct : Nat → va_E) (z : Nat → Int32) (F : Nat → Nat → Int32) : Prop :=
  ct 239 = .inr (8, [.ref (fa g 240), .ref (fa g 241), .int (z 0), .ref (fa g 242), .ref (fa g 243), .ref (fa g 244), .int (z 1), .ref (fa g 245), .int (z 2), .ref (fa g 246), .ref (fa g 247), .ref (fa g 248), .int (z 3), .int (z 4), .int (z 5), .int (z 6), .int (z 7), .int (z 8), .int (z 9)]) ∧ ct 240 = .inl (fcI g, 121, .inl (F 0)) ∧ ct 241 = .inl (fcI g, 726, .inl (F 1)) ∧ ct 242 = .inl (fcI g, 242, .inl (F 2)) ∧ ct 243 = .inl (fcI g, 2, .inl (F 3)) ∧ ct 244 = .inl (fcI g, 60, .inl (F 4)) ∧ ct 245 = .inl (fcI g, 6, .inl (F 5)) ∧ ct 246 = .inl (fcI g, 36, .inl (F 6)) ∧ ct 247 = .inl (fcI g, 20, .inl (F 7)) ∧ ct 248 = .inl (fcI g, 20, .inl (F 8))
theorem MA.f0 {g : fG} {ct ct1 : Nat → va_E} {z : Nat → Int32} {F : Nat → Nat → Int32} {f : Nat → Int32} (H : MA g ct z F) (e : ct1 = fu ct 240 (.inl (fcI g, 121, .inl f))) : MA g ct1 z (uF F 0 f) := by
  obtain ⟨h, a0, a1, a2, a3, a4, a5, a6, a7, a8⟩ := H
  exact ⟨by rw [e]; exact (fu_ne (by omega)).trans h, by rw [e]; exact fu_eq _ _ _, by rw [e]; exact (fu_ne (by omega)).trans a1, by rw [e]; exact (fu_ne (by omega)).trans a2, by rw [e]; exact (fu_ne (by omega)).trans a3, by rw [e]; exact (fu_ne (by omega)).trans a4, by rw [e]; exact (fu_ne (by omega)).trans a5, by rw [e]; exact (fu_ne (by omega)).trans a6, by rw [e]; exact (fu_ne (by omega)).trans a7, by rw [e]; exact (fu_ne (by omega)).trans a8⟩
theorem MA.f1 {g : fG} {ct ct1 : Nat → va_E} {z : Nat → Int32} {F : Nat → Nat → Int32} {f : Nat → Int32} (H : MA g ct z F) (e : ct1 = fu ct 241 (.inl (fcI g, 726, .inl f))) : MA g ct1 z (uF F 1 f) := by
  obtain ⟨h, a0, a1, a2, a3, a4, a5, a6, a7, a8⟩ := H
  exact ⟨by rw [e]; exact (fu_ne (by omega)).trans h, by rw [e]; exact (fu_ne (by omega)).trans a0, by rw [e]; exact fu_eq _ _ _, by rw [e]; exact (fu_ne (by omega)).trans a2, by rw [e]; exact (fu_ne (by omega)).trans a3, by rw [e]; exact (fu_ne (by omega)).trans a4, by rw [e]; exact (fu_ne (by omega)).trans a5, by rw [e]; exact (fu_ne (by omega)).trans a6, by rw [e]; exact (fu_ne (by omega)).trans a7, by rw [e]; exact (fu_ne (by omega)).trans a8⟩
theorem MA.f2 {g : fG} {ct ct1 : Nat → va_E} {z : Nat → Int32} {F : Nat → Nat → Int32} {f : Nat → Int32} (H : MA g ct z F) (e : ct1 = fu ct 242 (.inl (fcI g, 242, .inl f))) : MA g ct1 z (uF F 2 f) := by
  obtain ⟨h, a0, a1, a2, a3, a4, a5, a6, a7, a8⟩ := H
  exact ⟨by rw [e]; exact (fu_ne (by omega)).trans h, by rw [e]; exact (fu_ne (by omega)).trans a0, by rw [e]; exact (fu_ne (by omega)).trans a1, by rw [e]; exact fu_eq _ _ _, by rw [e]; exact (fu_ne (by omega)).trans a3, by rw [e]; exact (fu_ne (by omega)).trans a4, by rw [e]; exact (fu_ne (by omega)).trans a5, by rw [e]; exact (fu_ne (by omega)).trans a6, by rw [e]; exact (fu_ne (by omega)).trans a7, by rw [e]; exact (fu_ne (by omega)).trans a8⟩
theorem MA.f3 {g : fG} {ct ct1 : Nat → va_E} {z : Nat → Int32} {F : Nat → Nat → Int32} {f : Nat → Int32} (H : MA g ct z F) (e : ct1 = fu ct 243 (.inl (fcI g, 2, .inl f))) : MA g ct1 z (uF F 3 f) := by
  obtain ⟨h, a0, a1, a2, a3, a4, a5, a6, a7, a8⟩ := H
  exact ⟨by rw [e]; exact (fu_ne (by omega)).trans h, by rw [e]; exact (fu_ne (by omega)).trans a0, by rw [e]; exact (fu_ne (by omega)).trans a1, by rw [e]; exact (fu_ne (by omega)).trans a2, by rw [e]; exact fu_eq _ _ _, by rw [e]; exact (fu_ne (by omega)).trans a4, by rw [e]; exact (fu_ne (by omega)).trans a5, by rw [e]; exact (fu_ne (by omega)).trans a6, by rw [e]; exact (fu_ne (by omega)).trans a7, by rw [e]; exact (fu_ne (by omega)).trans a8⟩
theorem MA.f4 {g : fG} {ct ct1 : Nat → va_E} {z : Nat → Int32} {F : Nat → Nat → Int32} {f : Nat → Int32} (H : MA g ct z F) (e : ct1 = fu ct 244 (.inl (fcI g, 60, .inl f))) : MA g ct1 z (uF F 4 f) := by
  obtain ⟨h, a0, a1, a2, a3, a4, a5, a6, a7, a8⟩ := H
  exact ⟨by rw [e]; exact (fu_ne (by omega)).trans h, by rw [e]; exact (fu_ne (by omega)).trans a0, by rw [e]; exact (fu_ne (by omega)).trans a1, by rw [e]; exact (fu_ne (by omega)).trans a2, by rw [e]; exact (fu_ne (by omega)).trans a3, by rw [e]; exact fu_eq _ _ _, by rw [e]; exact (fu_ne (by omega)).trans a5, by rw [e]; exact (fu_ne (by omega)).trans a6, by rw [e]; exact (fu_ne (by omega)).trans a7, by rw [e]; exact (fu_ne (by omega)).trans a8⟩
theorem MA.f5 {g : fG} {ct ct1 : Nat → va_E} {z : Nat → Int32} {F : Nat → Nat → Int32} {f : Nat → Int32} (H : MA g ct z F) (e : ct1 = fu ct 245 (.inl (fcI g, 6, .inl f))) : MA g ct1 z (uF F 5 f) := by
  obtain ⟨h, a0, a1, a2, a3, a4, a5, a6, a7, a8⟩ := H
  exact ⟨by rw [e]; exact (fu_ne (by omega)).trans h, by rw [e]; exact (fu_ne (by omega)).trans a0, by rw [e]; exact (fu_ne (by omega)).trans a1, by rw [e]; exact (fu_ne (by omega)).trans a2, by rw [e]; exact (fu_ne (by omega)).trans a3, by rw [e]; exact (fu_ne (by omega)).trans a4, by rw [e]; exact fu_eq _ _ _, by rw [e]; exact (fu_ne (by omega)).trans a6, by rw [e]; exact (fu_ne (by omega)).trans a7, by rw [e]; exact (fu_ne (by omega)).trans a8⟩
theorem MA.f6 {g : fG} {ct ct1 : Nat → va_E} {z : Nat → Int32} {F : Nat → Nat → Int32} {f : Nat → Int32} (H : MA g ct z F) (e : ct1 = fu ct 246 (.inl (fcI g, 36, .inl f))) : MA g ct1 z (uF F 6 f) := by
  obtain ⟨h, a0, a1, a2, a3, a4, a5, a6, a7, a8⟩ := H
  exact ⟨by rw [e]; exact (fu_ne (by omega)).trans h, by rw [e]; exact (fu_ne (by omega)).trans a0, by rw [e]; exact (fu_ne (by omega)).trans a1, by rw [e]; exact (fu_ne (by omega)).trans a2, by rw [e]; exact (fu_ne (by omega)).trans a3, by rw [e]; exact (fu_ne (by omega)).trans a4, by rw [e]; exact (fu_ne (by omega)).trans a5, by rw [e]; exact fu_eq _ _ _, by rw [e]; exact (fu_ne (by omega)).trans a7, by rw [e]; exact (fu_ne (by omega)).trans a8⟩
theorem MA.f7 {g : fG} {ct ct1 : Nat → va_E} {z : Nat → Int32} {F : Nat → Nat → Int32} {f : Nat → Int32} (H : MA g ct z F) (e : ct1 = fu ct 247 (.inl (fcI g, 20, .inl f))) : MA g ct1 z (uF F 7 f) := by
  obtain ⟨h, a0, a1, a2, a3, a4, a5, a6, a7, a8⟩ := H
  exact ⟨by rw [e]; exact (fu_ne (by omega)).trans h, by rw [e]; exact (fu_ne (by omega)).trans a0, by rw [e]; exact (fu_ne (by omega)).trans a1, by rw [e]; exact (fu_ne (by omega)).trans a2, by rw [e]; exact (fu_ne (by omega)).trans a3, by rw [e]; exact (fu_ne (by omega)).trans a4, by rw [e]; exact (fu_ne (by omega)).trans a5, by rw [e]; exact (fu_ne (by omega)).trans a6, by rw [e]; exact fu_eq _ _ _, by rw [e]; exact (fu_ne (by omega)).trans a8⟩
theorem MA.f8 {g : fG} {ct ct1 : Nat → va_E} {z : Nat → Int32} {F : Nat → Nat → Int32} {f : Nat → Int32} (H : MA g ct z F) (e : ct1 = fu ct 248 (.inl (fcI g, 20, .inl f))) : MA g ct1 z (uF F 8 f) := by
  obtain ⟨h, a0, a1, a2, a3, a4, a5, a6, a7, a8⟩ := H
  exact ⟨by rw [e]; exact (fu_ne (by omega)).trans h, by rw [e]; exact (fu_ne (by omega)).trans a0, by rw [e]; exact (fu_ne (by omega)).trans a1, by rw [e]; exact (fu_ne (by omega)).trans a2, by rw [e]; exact (fu_ne (by omega)).trans a3, by rw [e]; exact (fu_ne (by omega)).trans a4, by rw [e]; exact (fu_ne (by omega)).trans a5, by rw [e]; exact (fu_ne (by omega)).trans a6, by rw [e]; exact (fu_ne (by omega)).trans a7, by rw [e]; exact fu_eq _ _ _⟩
theorem MA.z0 {g : fG} {ct ct1 : Nat → va_E} {z : Nat → Int32} {F : Nat → Nat → Int32} {x : Int32} (H : MA g ct z F) (e : ct1 = fu ct 239 (.inr (8, [.ref (fa g 240), .ref (fa g 241), .int (x), .ref (fa g 242), .ref (fa g 243), .ref (fa g 244), .int (z 1), .ref (fa g 245), .int (z 2), .ref (fa g 246), .ref (fa g 247), .ref (fa g 248), .int (z 3), .int (z 4), .int (z 5), .int (z 6), .int (z 7), .int (z 8), .int (z 9)]))) : MA g ct1 (upd z 0 x) F := by
  obtain ⟨h, a0, a1, a2, a3, a4, a5, a6, a7, a8⟩ := H
  exact ⟨by rw [e]; exact fu_eq _ _ _, by rw [e]; exact (fu_ne (by omega)).trans a0, by rw [e]; exact (fu_ne (by omega)).trans a1, by rw [e]; exact (fu_ne (by omega)).trans a2, by rw [e]; exact (fu_ne (by omega)).trans a3, by rw [e]; exact (fu_ne (by omega)).trans a4, by rw [e]; exact (fu_ne (by omega)).trans a5, by rw [e]; exact (fu_ne (by omega)).trans a6, by rw [e]; exact (fu_ne (by omega)).trans a7, by rw [e]; exact (fu_ne (by omega)).trans a8⟩
theorem MA.z1 {g : fG} {ct ct1 : Nat → va_E} {z : Nat → Int32} {F : Nat → Nat → Int32} {x : Int32} (H : MA g ct z F) (e : ct1 = fu ct 239 (.inr (8, [.ref (fa g 240), .ref (fa g 241), .int (z 0), .ref (fa g 242), .ref (fa g 243), .ref (fa g 244), .int (x), .ref (fa g 245), .int (z 2), .ref (fa g 246), .ref (fa g 247), .ref (fa g 248), .int (z 3), .int (z 4), .int (z 5), .int (z 6), .int (z 7), .int (z 8), .int (z 9)]))) : MA g ct1 (upd z 1 x) F := by
  obtain ⟨h, a0, a1, a2, a3, a4, a5, a6, a7, a8⟩ := H
  exact ⟨by rw [e]; exact fu_eq _ _ _, by rw [e]; exact (fu_ne (by omega)).trans a0, by rw [e]; exact (fu_ne (by omega)).trans a1, by rw [e]; exact (fu_ne (by omega)).trans a2, by rw [e]; exact (fu_ne (by omega)).trans a3, by rw [e]; exact (fu_ne (by omega)).trans a4, by rw [e]; exact (fu_ne (by omega)).trans a5, by rw [e]; exact (fu_ne (by omega)).trans a6, by rw [e]; exact (fu_ne (by omega)).trans a7, by rw [e]; exact (fu_ne (by omega)).trans a8⟩
theorem MA.z2 {g : fG} {ct ct1 : Nat → va_E} {z : Nat → Int32} {F : Nat → Nat → Int32} {x : Int32} (H : MA g ct z F) (e : ct1 = fu ct 239 (.inr (8, [.ref (fa g 240), .ref (fa g 241), .int (z 0), .ref (fa g 242), .ref (fa g 243), .ref (fa g 244), .int (z 1), .ref (fa g 245), .int (x), .ref (fa g 246), .ref (fa g 247), .ref (fa g 248), .int (z 3), .int (z 4), .int (z 5), .int (z 6), .int (z 7), .int (z 8), .int (z 9)]))) : MA g ct1 (upd z 2 x) F := by
  obtain ⟨h, a0, a1, a2, a3, a4, a5, a6, a7, a8⟩ := H
  exact ⟨by rw [e]; exact fu_eq _ _ _, by rw [e]; exact (fu_ne (by omega)).trans a0, by rw [e]; exact (fu_ne (by omega)).trans a1, by rw [e]; exact (fu_ne (by omega)).trans a2, by rw [e]; exact (fu_ne (by omega)).trans a3, by rw [e]; exact (fu_ne (by omega)).trans a4, by rw [e]; exact (fu_ne (by omega)).trans a5, by rw [e]; exact (fu_ne (by omega)).trans a6, by rw [e]; exact (fu_ne (by omega)).trans a7, by rw [e]; exact (fu_ne (by omega)).trans a8⟩
theorem MA.z3 {g : fG} {ct ct1 : Nat → va_E} {z : Nat → Int32} {F : Nat → Nat → Int32} {x : Int32} (H : MA g ct z F) (e : ct1 = fu ct 239 (.inr (8, [.ref (fa g 240), .ref (fa g 241), .int (z 0), .ref (fa g 242), .ref (fa g 243), .ref (fa g 244), .int (z 1), .ref (fa g 245), .int (z 2), .ref (fa g 246), .ref (fa g 247), .ref (fa g 248), .int (x), .int (z 4), .int (z 5), .int (z 6), .int (z 7), .int (z 8), .int (z 9)]))) : MA g ct1 (upd z 3 x) F := by
  obtain ⟨h, a0, a1, a2, a3, a4, a5, a6, a7, a8⟩ := H
  exact ⟨by rw [e]; exact fu_eq _ _ _, by rw [e]; exact (fu_ne (by omega)).trans a0, by rw [e]; exact (fu_ne (by omega)).trans a1, by rw [e]; exact (fu_ne (by omega)).trans a2, by rw [e]; exact (fu_ne (by omega)).trans a3, by rw [e]; exact (fu_ne (by omega)).trans a4, by rw [e]; exact (fu_ne (by omega)).trans a5, by rw [e]; exact (fu_ne (by omega)).trans a6, by rw [e]; exact (fu_ne (by omega)).trans a7, by rw [e]; exact (fu_ne (by omega)).trans a8⟩
theorem MA.z4 {g : fG} {ct ct1 : Nat → va_E} {z : Nat → Int32} {F : Nat → Nat → Int32} {x : Int32} (H : MA g ct z F) (e : ct1 = fu ct 239 (.inr (8, [.ref (fa g 240), .ref (fa g 241), .int (z 0), .ref (fa g 242), .ref (fa g 243), .ref (fa g 244), .int (z 1), .ref (fa g 245), .int (z 2), .ref (fa g 246), .ref (fa g 247), .ref (fa g 248), .int (z 3), .int (x), .int (z 5), .int (z 6), .int (z 7), .int (z 8), .int (z 9)]))) : MA g ct1 (upd z 4 x) F := by
  obtain ⟨h, a0, a1, a2, a3, a4, a5, a6, a7, a8⟩ := H
  exact ⟨by rw [e]; exact fu_eq _ _ _, by rw [e]; exact (fu_ne (by omega)).trans a0, by rw [e]; exact (fu_ne (by omega)).trans a1, by rw [e]; exact (fu_ne (by omega)).trans a2, by rw [e]; exact (fu_ne (by omega)).trans a3, by rw [e]; exact (fu_ne (by omega)).trans a4, by rw [e]; exact (fu_ne (by omega)).trans a5, by rw [e]; exact (fu_ne (by omega)).trans a6, by rw [e]; exact (fu_ne (by omega)).trans a7, by rw [e]; exact (fu_ne (by omega)).trans a8⟩
theorem MA.z5 {g : fG} {ct ct1 : Nat → va_E} {z : Nat → Int32} {F : Nat → Nat → Int32} {x : Int32} (H : MA g ct z F) (e : ct1 = fu ct 239 (.inr (8, [.ref (fa g 240), .ref (fa g 241), .int (z 0), .ref (fa g 242), .ref (fa g 243), .ref (fa g 244), .int (z 1), .ref (fa g 245), .int (z 2), .ref (fa g 246), .ref (fa g 247), .ref (fa g 248), .int (z 3), .int (z 4), .int (x), .int (z 6), .int (z 7), .int (z 8), .int (z 9)]))) : MA g ct1 (upd z 5 x) F := by
  obtain ⟨h, a0, a1, a2, a3, a4, a5, a6, a7, a8⟩ := H
  exact ⟨by rw [e]; exact fu_eq _ _ _, by rw [e]; exact (fu_ne (by omega)).trans a0, by rw [e]; exact (fu_ne (by omega)).trans a1, by rw [e]; exact (fu_ne (by omega)).trans a2, by rw [e]; exact (fu_ne (by omega)).trans a3, by rw [e]; exact (fu_ne (by omega)).trans a4, by rw [e]; exact (fu_ne (by omega)).trans a5, by rw [e]; exact (fu_ne (by omega)).trans a6, by rw [e]; exact (fu_ne (by omega)).trans a7, by rw [e]; exact (fu_ne (by omega)).trans a8⟩
theorem MA.z6 {g : fG} {ct ct1 : Nat → va_E} {z : Nat → Int32} {F : Nat → Nat → Int32} {x : Int32} (H : MA g ct z F) (e : ct1 = fu ct 239 (.inr (8, [.ref (fa g 240), .ref (fa g 241), .int (z 0), .ref (fa g 242), .ref (fa g 243), .ref (fa g 244), .int (z 1), .ref (fa g 245), .int (z 2), .ref (fa g 246), .ref (fa g 247), .ref (fa g 248), .int (z 3), .int (z 4), .int (z 5), .int (x), .int (z 7), .int (z 8), .int (z 9)]))) : MA g ct1 (upd z 6 x) F := by
  obtain ⟨h, a0, a1, a2, a3, a4, a5, a6, a7, a8⟩ := H
  exact ⟨by rw [e]; exact fu_eq _ _ _, by rw [e]; exact (fu_ne (by omega)).trans a0, by rw [e]; exact (fu_ne (by omega)).trans a1, by rw [e]; exact (fu_ne (by omega)).trans a2, by rw [e]; exact (fu_ne (by omega)).trans a3, by rw [e]; exact (fu_ne (by omega)).trans a4, by rw [e]; exact (fu_ne (by omega)).trans a5, by rw [e]; exact (fu_ne (by omega)).trans a6, by rw [e]; exact (fu_ne (by omega)).trans a7, by rw [e]; exact (fu_ne (by omega)).trans a8⟩
theorem MA.z7 {g : fG} {ct ct1 : Nat → va_E} {z : Nat → Int32} {F : Nat → Nat → Int32} {x : Int32} (H : MA g ct z F) (e : ct1 = fu ct 239 (.inr (8, [.ref (fa g 240), .ref (fa g 241), .int (z 0), .ref (fa g 242), .ref (fa g 243), .ref (fa g 244), .int (z 1), .ref (fa g 245), .int (z 2), .ref (fa g 246), .ref (fa g 247), .ref (fa g 248), .int (z 3), .int (z 4), .int (z 5), .int (z 6), .int (x), .int (z 8), .int (z 9)]))) : MA g ct1 (upd z 7 x) F := by
  obtain ⟨h, a0, a1, a2, a3, a4, a5, a6, a7, a8⟩ := H
  exact ⟨by rw [e]; exact fu_eq _ _ _, by rw [e]; exact (fu_ne (by omega)).trans a0, by rw [e]; exact (fu_ne (by omega)).trans a1, by rw [e]; exact (fu_ne (by omega)).trans a2, by rw [e]; exact (fu_ne (by omega)).trans a3, by rw [e]; exact (fu_ne (by omega)).trans a4, by rw [e]; exact (fu_ne (by omega)).trans a5, by rw [e]; exact (fu_ne (by omega)).trans a6, by rw [e]; exact (fu_ne (by omega)).trans a7, by rw [e]; exact (fu_ne (by omega)).trans a8⟩
theorem MA.z8 {g : fG} {ct ct1 : Nat → va_E} {z : Nat → Int32} {F : Nat → Nat → Int32} {x : Int32} (H : MA g ct z F) (e : ct1 = fu ct 239 (.inr (8, [.ref (fa g 240), .ref (fa g 241), .int (z 0), .ref (fa g 242), .ref (fa g 243), .ref (fa g 244), .int (z 1), .ref (fa g 245), .int (z 2), .ref (fa g 246), .ref (fa g 247), .ref (fa g 248), .int (z 3), .int (z 4), .int (z 5), .int (z 6), .int (z 7), .int (x), .int (z 9)]))) : MA g ct1 (upd z 8 x) F := by
  obtain ⟨h, a0, a1, a2, a3, a4, a5, a6, a7, a8⟩ := H
  exact ⟨by rw [e]; exact fu_eq _ _ _, by rw [e]; exact (fu_ne (by omega)).trans a0, by rw [e]; exact (fu_ne (by omega)).trans a1, by rw [e]; exact (fu_ne (by omega)).trans a2, by rw [e]; exact (fu_ne (by omega)).trans a3, by rw [e]; exact (fu_ne (by omega)).trans a4, by rw [e]; exact (fu_ne (by omega)).trans a5, by rw [e]; exact (fu_ne (by omega)).trans a6, by rw [e]; exact (fu_ne (by omega)).trans a7, by rw [e]; exact (fu_ne (by omega)).trans a8⟩
theorem MA.z9 {g : fG} {ct ct1 : Nat → va_E} {z : Nat → Int32} {F : Nat → Nat → Int32} {x : Int32} (H : MA g ct z F) (e : ct1 = fu ct 239 (.inr (8, [.ref (fa g 240), .ref (fa g 241), .int (z 0), .ref (fa g 242), .ref (fa g 243), .ref (fa g 244), .int (z 1), .ref (fa g 245), .int (z 2), .ref (fa g 246), .ref (fa g 247), .ref (fa g 248), .int (z 3), .int (z 4), .int (z 5), .int (z 6), .int (z 7), .int (z 8), .int (x)]))) : MA g ct1 (upd z 9 x) F := by
  obtain ⟨h, a0, a1, a2, a3, a4, a5, a6, a7, a8⟩ := H
  exact ⟨by rw [e]; exact fu_eq _ _ _, by rw [e]; exact (fu_ne (by omega)).trans a0, by rw [e]; exact (fu_ne (by omega)).trans a1, by rw [e]; exact (fu_ne (by omega)).trans a2, by rw [e]; exact (fu_ne (by omega)).trans a3, by rw [e]; exact (fu_ne (by omega)).trans a4, by rw [e]; exact (fu_ne (by omega)).trans a5, by rw [e]; exact (fu_ne (by omega)).trans a6, by rw [e]; exact (fu_ne (by omega)).trans a7, by rw [e]; exact (fu_ne (by omega)).trans a8⟩
theorem bI_iff {P Q : Prop} [Decidable P] [Decidable Q] (h : P ↔ Q) : bI P = bI Q := by
  by_cases p : P
  · rw [← bI_t p, ← bI_t (h.mp p)]
  · rw [← bI_f p, ← bI_f (fun q => p (h.mpr q))]
theorem bI_01 {P : Prop} [Decidable P] : (if bI P = 0 then nI 0 else nI 1) = bI P := by
  by_cases p : P
  · rw [← bI_t p]; rfl
  · rw [← bI_f p]; rfl
theorem mI_toInt {t : Nat} (h : t < 1000000) : (mI t).toInt = (t : Int) - 1 := by
  by_cases z : t = 0
  · subst z; rfl
  · rw [mI_p (by omega), nI_toInt (by omega)]; omega
theorem mI_sub0 (n : Nat) : nI n - nI 1 = mI n := by
  by_cases z : n = 0
  · subst z; decide
  · exact mI_sub (by omega)
/-- what the reference's row of states says -/
abbrev SR (σ : Nat → Int32) (F : Nat → Nat → Int32) : Prop := ∀ i, i < 121 → F 0 i = σ i
theorem SR.n {σ : Nat → Int32} {F : Nat → Nat → Int32} (h : SR σ F) (hG : Good σ) : F 0 0 = nI (nB σ) := (h 0 (by omega)).trans hG.1.1
theorem SR.k {σ : Nat → Int32} {F : Nat → Nat → Int32} (h : SR σ F) (hG : Good σ) : F 0 1 = nI (nT σ) := (h 1 (by omega)).trans hG.2.1.1
theorem SR.p {σ : Nat → Int32} {F : Nat → Nat → Int32} (h : SR σ F) (hG : Good σ) {r i : Nat} (hr : r < nT σ) (hi : i < 5) : F 0 (21 + 5 * r + i) = nI (rk σ r i) := by
  have hk := hG.k
  exact (h _ (by omega)).trans ((hG.r hr).1 i hi)
/-- the world that is looked at -/
abbrev WR (σ : Nat → Int32) (w : Nat → Nat) (F : Nat → Nat → Int32) : Prop := ∀ p, p < nB σ → F 5 p = nI (w p)
theorem wM_pow (σ : Nat → Int32) : mM σ = (nB σ - 1) ^ nB σ := rfl

set_option maxRecDepth 100000 in
set_option maxHeartbeats 4000000 in
theorem c_X8_within (l : Launch) (g : fG) (N : Nat) (ct : Nat → va_E) (a lo hi : Int32) : Met l yX8_within (wsU yX8_within cX8_within 3 (some .boolean)) rX8_within (fPre g N ct [.int a, .int lo, .int hi]) (fQpi (fun r => r = bI (lo.toInt ≤ a.toInt ∧ a.toInt ≤ hi.toInt))) 0 0 (fB g) := by
  refine fs_start (own := RX8) (lv0 := [(0, .int a), (1, .int lo), (2, .int hi)]) (by decide) rfl (Nat.le_of_ble_eq_true rfl) rfl ?_
  intro p e s m args below meth c ls E hr hlk hnm hP hl hS
  have hx := E.1.1
  have hb := E.1.2.1
  refine lv_iload_n hx hb dX8_within_0 rfl (lv_at hl 0 rfl) ?_
  refine lv_iload_n hx hb dX8_within_1 rfl (lv_at hl 1 rfl) ?_
  refine lv_icmp_lt (tgt := 14) hx hb dX8_within_2 (by decide) (fun c_2 => ?_) (fun c_2 => ?_)
  · rw [Int32.lt_iff_toInt_lt] at c_2
    refine lv_iconst (v := (nI 0)) hx hb dX8_within_14 (by decide) ?_
    refine fs_pzret E hr rfl hlk hS dX8_within_15 ?_
    exact bI_f (by omega)
  · rw [Int32.lt_iff_toInt_lt] at c_2
    refine lv_iload_n hx hb dX8_within_5 rfl (lv_at hl 0 rfl) ?_
    refine lv_iload_n hx hb dX8_within_6 rfl (lv_at hl 2 rfl) ?_
    refine lv_icmp_gt (tgt := 14) hx hb dX8_within_7 (by decide) (fun c_7 => ?_) (fun c_7 => ?_)
    · rw [Int32.lt_iff_toInt_lt] at c_7
      refine lv_iconst (v := (nI 0)) hx hb dX8_within_14 (by decide) ?_
      refine fs_pzret E hr rfl hlk hS dX8_within_15 ?_
      exact bI_f (by omega)
    · rw [Int32.lt_iff_toInt_lt] at c_7
      refine lv_iconst (v := (nI 1)) hx hb dX8_within_10 (by decide) ?_
      refine lv_goto (tgt := 15) hx hb dX8_within_11 (by decide) ?_
      refine fs_pzret E hr rfl hlk hS dX8_within_15 ?_
      exact bI_t (by omega)

set_option maxRecDepth 100000 in
set_option maxHeartbeats 4000000 in
theorem c_X8_isBox (l : Launch) (g : fG) (N : Nat) (ct : Nat → va_E) (z : Nat → Int32) (F : Nat → Nat → Int32) (σ : Nat → Int32) (hN : 249 ≤ N) (hG : Good σ) (hM : MA g ct z F) (hT : SR σ F) (x : Int32) : Met l yX8_isBox (wsU yX8_isBox cX8_isBox 2 (some .boolean)) rX8_isBox (fPre g N ct [.ref (fa g 239), .int x]) (fQpi (fun r => r = bI (hbx σ x))) 0 0 (fB g) := by
  refine fs_start (own := RX8) (lv0 := [(0, .ref (fa g 239)), (1, .int x)]) (by decide) rfl (Nat.le_of_ble_eq_true rfl) rfl ?_
  intro p e s m args below meth c ls E hr hlk hnm hP hl hS
  have hx := E.1.1
  have hb := E.1.2.1
  have m_1o : ct 239 = .inr (8, [.ref (fa g 240), .ref (fa g 241), .int (z 0), .ref (fa g 242), .ref (fa g 243), .ref (fa g 244), .int (z 1), .ref (fa g 245), .int (z 2), .ref (fa g 246), .ref (fa g 247), .ref (fa g 248), .int (z 3), .int (z 4), .int (z 5), .int (z 6), .int (z 7), .int (z 8), .int (z 9)]) := (hM).1
  have m_1r0 : ct 240 = .inl (fcI g, 121, .inl (F 0)) := (hM).2.1
  have m_1r1 : ct 241 = .inl (fcI g, 726, .inl (F 1)) := (hM).2.2.1
  have m_1r2 : ct 242 = .inl (fcI g, 242, .inl (F 2)) := (hM).2.2.2.1
  have m_1r3 : ct 243 = .inl (fcI g, 2, .inl (F 3)) := (hM).2.2.2.2.1
  have m_1r4 : ct 244 = .inl (fcI g, 60, .inl (F 4)) := (hM).2.2.2.2.2.1
  have m_1r5 : ct 245 = .inl (fcI g, 6, .inl (F 5)) := (hM).2.2.2.2.2.2.1
  have m_1r6 : ct 246 = .inl (fcI g, 36, .inl (F 6)) := (hM).2.2.2.2.2.2.2.1
  have m_1r7 : ct 247 = .inl (fcI g, 20, .inl (F 7)) := (hM).2.2.2.2.2.2.2.2.1
  have m_1r8 : ct 248 = .inl (fcI g, 20, .inl (F 8)) := (hM).2.2.2.2.2.2.2.2.2
  have hn3 := hG.n3
  have hn6 := hG.n6
  have hk20 := hG.k
  refine lv_iload_n hx hb dX8_isBox_0 rfl (lv_at hl 1 rfl) ?_
  refine lv_iconst (v := (nI 0)) hx hb dX8_isBox_1 (by decide) ?_
  refine lv_aload_n hx hb dX8_isBox_2 rfl (lv_at hl 0 rfl) ?_
  refine fs_get E hP (k := 239) (v := .ref (fa g 240)) 0 fc8 m_1o (by omega) (by decide) (wm wl_5 (i := 0) rfl) rfl dX8_isBox_3 ?_
  refine lv_iconst (v := (nI 0)) hx hb dX8_isBox_6 (by decide) ?_
  refine fs_iald E hP (k := 240) m_1r0 (by omega) (vp_in_nI (by omega) (by omega)) dX8_isBox_7 ?_
  refine fs_vi (y := (F 0) 0) (congrArg (F 0) (nI_clamp (by omega))) ?_
  refine fs_vi (y := (nI (nB σ))) (hT.n hG) ?_
  refine lv_iconst (v := (nI 1)) hx hb dX8_isBox_8 (by decide) ?_
  refine lv_isub hx hb dX8_isBox_9 ?_
  refine fs_vi (y := (mI (nB σ))) (mI_sub0 _) ?_
  refine fs_pi (va_runS (As := [.int x, .int (nI 0), .int (mI (nB σ))]) (rest := []) E.1 (c_X8_within l g N ct x (nI 0) (mI (nB σ))) (lk_RX8_49 E.1.2.2.2.2 ⟨Nat.le_of_ble_eq_true rfl, Nat.le_of_ble_eq_true rfl⟩) (fpreS E hP hS) rfl rfl hl.1 rfl (lv_room (Nat.le_of_ble_eq_true rfl)) dX8_isBox_10 ⟨Nat.zero_le _, Nat.zero_le _⟩) hS (fun r_10 locs p_10 hS => ?_)
  refine fs_pzret E hr (fb_n p_10) hlk hS dX8_isBox_13 ?_
  rw [p_10]; exact bI_iff (by rw [mI_toInt (by omega), nI_toInt (by omega)]; omega)

set_option maxRecDepth 100000 in
set_option maxHeartbeats 4000000 in
theorem c_X8_isRumour (l : Launch) (g : fG) (N : Nat) (ct : Nat → va_E) (z : Nat → Int32) (F : Nat → Nat → Int32) (σ : Nat → Int32) (hN : 249 ≤ N) (hG : Good σ) (hM : MA g ct z F) (hT : SR σ F) (x : Int32) : Met l yX8_isRumour (wsU yX8_isRumour cX8_isRumour 2 (some .boolean)) rX8_isRumour (fPre g N ct [.ref (fa g 239), .int x]) (fQpi (fun r => r = bI (hrx σ x))) 0 0 (fB g) := by
  refine fs_start (own := RX8) (lv0 := [(0, .ref (fa g 239)), (1, .int x)]) (by decide) rfl (Nat.le_of_ble_eq_true rfl) rfl ?_
  intro p e s m args below meth c ls E hr hlk hnm hP hl hS
  have hx := E.1.1
  have hb := E.1.2.1
  have m_1o : ct 239 = .inr (8, [.ref (fa g 240), .ref (fa g 241), .int (z 0), .ref (fa g 242), .ref (fa g 243), .ref (fa g 244), .int (z 1), .ref (fa g 245), .int (z 2), .ref (fa g 246), .ref (fa g 247), .ref (fa g 248), .int (z 3), .int (z 4), .int (z 5), .int (z 6), .int (z 7), .int (z 8), .int (z 9)]) := (hM).1
  have m_1r0 : ct 240 = .inl (fcI g, 121, .inl (F 0)) := (hM).2.1
  have m_1r1 : ct 241 = .inl (fcI g, 726, .inl (F 1)) := (hM).2.2.1
  have m_1r2 : ct 242 = .inl (fcI g, 242, .inl (F 2)) := (hM).2.2.2.1
  have m_1r3 : ct 243 = .inl (fcI g, 2, .inl (F 3)) := (hM).2.2.2.2.1
  have m_1r4 : ct 244 = .inl (fcI g, 60, .inl (F 4)) := (hM).2.2.2.2.2.1
  have m_1r5 : ct 245 = .inl (fcI g, 6, .inl (F 5)) := (hM).2.2.2.2.2.2.1
  have m_1r6 : ct 246 = .inl (fcI g, 36, .inl (F 6)) := (hM).2.2.2.2.2.2.2.1
  have m_1r7 : ct 247 = .inl (fcI g, 20, .inl (F 7)) := (hM).2.2.2.2.2.2.2.2.1
  have m_1r8 : ct 248 = .inl (fcI g, 20, .inl (F 8)) := (hM).2.2.2.2.2.2.2.2.2
  have hn3 := hG.n3
  have hn6 := hG.n6
  have hk20 := hG.k
  refine lv_iload_n hx hb dX8_isRumour_0 rfl (lv_at hl 1 rfl) ?_
  refine lv_iconst (v := (nI 0)) hx hb dX8_isRumour_1 (by decide) ?_
  refine lv_aload_n hx hb dX8_isRumour_2 rfl (lv_at hl 0 rfl) ?_
  refine fs_get E hP (k := 239) (v := .ref (fa g 240)) 0 fc8 m_1o (by omega) (by decide) (wm wl_5 (i := 0) rfl) rfl dX8_isRumour_3 ?_
  refine lv_iconst (v := (nI 1)) hx hb dX8_isRumour_6 (by decide) ?_
  refine fs_iald E hP (k := 240) m_1r0 (by omega) (vp_in_nI (by omega) (by omega)) dX8_isRumour_7 ?_
  refine fs_vi (y := (F 0) 1) (congrArg (F 0) (nI_clamp (by omega))) ?_
  refine fs_vi (y := (nI (nT σ))) (hT.k hG) ?_
  refine lv_iconst (v := (nI 1)) hx hb dX8_isRumour_8 (by decide) ?_
  refine lv_isub hx hb dX8_isRumour_9 ?_
  refine fs_vi (y := (mI (nT σ))) (mI_sub0 _) ?_
  refine fs_pi (va_runS (As := [.int x, .int (nI 0), .int (mI (nT σ))]) (rest := []) E.1 (c_X8_within l g N ct x (nI 0) (mI (nT σ))) (lk_RX8_49 E.1.2.2.2.2 ⟨Nat.le_of_ble_eq_true rfl, Nat.le_of_ble_eq_true rfl⟩) (fpreS E hP hS) rfl rfl hl.1 rfl (lv_room (Nat.le_of_ble_eq_true rfl)) dX8_isRumour_10 ⟨Nat.zero_le _, Nat.zero_le _⟩) hS (fun r_10 locs p_10 hS => ?_)
  refine fs_pzret E hr (fb_n p_10) hlk hS dX8_isRumour_13 ?_
  rw [p_10]; exact bI_iff (by rw [mI_toInt (by omega), nI_toInt (by omega)]; omega)

set_option maxRecDepth 100000 in
set_option maxHeartbeats 4000000 in
theorem c_X8_part (l : Launch) (g : fG) (N : Nat) (ct : Nat → va_E) (z : Nat → Int32) (F : Nat → Nat → Int32) (σ : Nat → Int32) (hN : 249 ≤ N) (hG : Good σ) (hM : MA g ct z F) (hT : SR σ F) (r i : Nat) (hi : 21 + 5 * r + i < 121) : Met l yX8_part (wsU yX8_part cX8_part 3 (some .int)) rX8_part (fPre g N ct [.ref (fa g 239), .int (nI r), .int (nI i)]) (fQpi (fun v => v = σ (21 + 5 * r + i))) 0 0 (fB g) := by
  refine fs_start (own := RX8) (lv0 := [(0, .ref (fa g 239)), (1, .int (nI r)), (2, .int (nI i))]) (by decide) rfl (Nat.le_of_ble_eq_true rfl) rfl ?_
  intro p e s m args below meth c ls E hr hlk hnm hP hl hS
  have hx := E.1.1
  have hb := E.1.2.1
  have m_1o : ct 239 = .inr (8, [.ref (fa g 240), .ref (fa g 241), .int (z 0), .ref (fa g 242), .ref (fa g 243), .ref (fa g 244), .int (z 1), .ref (fa g 245), .int (z 2), .ref (fa g 246), .ref (fa g 247), .ref (fa g 248), .int (z 3), .int (z 4), .int (z 5), .int (z 6), .int (z 7), .int (z 8), .int (z 9)]) := (hM).1
  have m_1r0 : ct 240 = .inl (fcI g, 121, .inl (F 0)) := (hM).2.1
  have m_1r1 : ct 241 = .inl (fcI g, 726, .inl (F 1)) := (hM).2.2.1
  have m_1r2 : ct 242 = .inl (fcI g, 242, .inl (F 2)) := (hM).2.2.2.1
  have m_1r3 : ct 243 = .inl (fcI g, 2, .inl (F 3)) := (hM).2.2.2.2.1
  have m_1r4 : ct 244 = .inl (fcI g, 60, .inl (F 4)) := (hM).2.2.2.2.2.1
  have m_1r5 : ct 245 = .inl (fcI g, 6, .inl (F 5)) := (hM).2.2.2.2.2.2.1
  have m_1r6 : ct 246 = .inl (fcI g, 36, .inl (F 6)) := (hM).2.2.2.2.2.2.2.1
  have m_1r7 : ct 247 = .inl (fcI g, 20, .inl (F 7)) := (hM).2.2.2.2.2.2.2.2.1
  have m_1r8 : ct 248 = .inl (fcI g, 20, .inl (F 8)) := (hM).2.2.2.2.2.2.2.2.2
  have hn3 := hG.n3
  have hn6 := hG.n6
  have hk20 := hG.k
  refine lv_aload_n hx hb dX8_part_0 rfl (lv_at hl 0 rfl) ?_
  refine fs_get E hP (k := 239) (v := .ref (fa g 240)) 0 fc8 m_1o (by omega) (by decide) (wm wl_5 (i := 0) rfl) rfl dX8_part_1 ?_
  refine lv_bipush (v := (nI 21)) hx hb dX8_part_4 (by decide) ?_
  refine lv_iconst (v := (nI 5)) hx hb dX8_part_6 (by decide) ?_
  refine lv_iload_n hx hb dX8_part_7 rfl (lv_at hl 1 rfl) ?_
  refine lv_imul hx hb dX8_part_8 ?_
  refine fs_vi (y := nI (5 * r)) (pk_mul _ _) ?_
  refine lv_iadd hx hb dX8_part_9 ?_
  refine fs_vi (y := nI (21 + 5 * r)) (nI_add _ _) ?_
  refine lv_iload_n hx hb dX8_part_10 rfl (lv_at hl 2 rfl) ?_
  refine lv_iadd hx hb dX8_part_11 ?_
  refine fs_vi (y := nI (21 + 5 * r + i)) (nI_add _ _) ?_
  refine fs_iald E hP (k := 240) m_1r0 (by omega) (vp_in_nI (by omega) (by omega)) dX8_part_12 ?_
  refine fs_vi (y := (F 0) (21 + 5 * r + i)) (congrArg (F 0) (nI_clamp (by omega))) ?_
  refine fs_vi (y := (σ (21 + 5 * r + i))) (hT _ hi) ?_
  refine fs_piret E hr hlk hS dX8_part_13 ?_
  rfl

set_option maxRecDepth 100000 in
set_option maxHeartbeats 4000000 in
theorem c_X8_isOpen (l : Launch) (g : fG) (N : Nat) (ct : Nat → va_E) (z : Nat → Int32) (F : Nat → Nat → Int32) (σ : Nat → Int32) (hN : 249 ≤ N) (hG : Good σ) (hM : MA g ct z F) (hT : SR σ F) (r : Nat) (hr0 : r < nT σ) : Met l yX8_isOpen (wsU yX8_isOpen cX8_isOpen 2 (some .boolean)) rX8_isOpen (fPre g N ct [.ref (fa g 239), .int (nI r)]) (fQpi (fun v => v = bI (rk σ r 4 = 0))) 0 0 (fB g) := by
  refine fs_start (own := RX8) (lv0 := [(0, .ref (fa g 239)), (1, .int (nI r))]) (by decide) rfl (Nat.le_of_ble_eq_true rfl) rfl ?_
  intro p e s m args below meth c ls E hr hlk hnm hP hl hS
  have hx := E.1.1
  have hb := E.1.2.1
  have m_1o : ct 239 = .inr (8, [.ref (fa g 240), .ref (fa g 241), .int (z 0), .ref (fa g 242), .ref (fa g 243), .ref (fa g 244), .int (z 1), .ref (fa g 245), .int (z 2), .ref (fa g 246), .ref (fa g 247), .ref (fa g 248), .int (z 3), .int (z 4), .int (z 5), .int (z 6), .int (z 7), .int (z 8), .int (z 9)]) := (hM).1
  have m_1r0 : ct 240 = .inl (fcI g, 121, .inl (F 0)) := (hM).2.1
  have m_1r1 : ct 241 = .inl (fcI g, 726, .inl (F 1)) := (hM).2.2.1
  have m_1r2 : ct 242 = .inl (fcI g, 242, .inl (F 2)) := (hM).2.2.2.1
  have m_1r3 : ct 243 = .inl (fcI g, 2, .inl (F 3)) := (hM).2.2.2.2.1
  have m_1r4 : ct 244 = .inl (fcI g, 60, .inl (F 4)) := (hM).2.2.2.2.2.1
  have m_1r5 : ct 245 = .inl (fcI g, 6, .inl (F 5)) := (hM).2.2.2.2.2.2.1
  have m_1r6 : ct 246 = .inl (fcI g, 36, .inl (F 6)) := (hM).2.2.2.2.2.2.2.1
  have m_1r7 : ct 247 = .inl (fcI g, 20, .inl (F 7)) := (hM).2.2.2.2.2.2.2.2.1
  have m_1r8 : ct 248 = .inl (fcI g, 20, .inl (F 8)) := (hM).2.2.2.2.2.2.2.2.2
  have hn3 := hG.n3
  have hn6 := hG.n6
  have hk20 := hG.k
  have hst := (hG.how4 hr0).2
  refine lv_aload_n hx hb dX8_isOpen_0 rfl (lv_at hl 0 rfl) ?_
  refine lv_iload_n hx hb dX8_isOpen_1 rfl (lv_at hl 1 rfl) ?_
  refine lv_iconst (v := (nI 4)) hx hb dX8_isOpen_2 (by decide) ?_
  refine fs_pi (va_runV (As := [.int (nI r), .int (nI 4)]) (rest := []) E.1 (c_X8_part l g N ct z F σ (by omega) hG hM hT r 4 (by omega)) (lk_RX8_53 E.1.2.2.2.2 ⟨Nat.le_of_ble_eq_true rfl, Nat.le_of_ble_eq_true rfl⟩) (fpreV E hP hS fc8 m_1o (by omega)) rfl rfl hl.1 rfl (lv_room (Nat.le_of_ble_eq_true rfl)) dX8_isOpen_3 ⟨Nat.zero_le _, Nat.zero_le _⟩) hS (fun r_3 locs p_3 hS => ?_)
  refine fs_vi (y := (nI (rk σ r 4))) (p_3.trans ((hG.r (by omega)).1 4 (by omega))) ?_
  refine lv_if_ne (tgt := 13) hx hb dX8_isOpen_6 (by decide) (fun c_6 => ?_) (fun c_6 => ?_)
  · rw [fz_eqN (by omega)] at c_6
    refine lv_iconst (v := (nI 0)) hx hb dX8_isOpen_13 (by decide) ?_
    refine fs_pzret E hr rfl hlk hS dX8_isOpen_14 ?_
    exact bI_f c_6
  · rw [fz_eqN (by omega)] at c_6
    refine lv_iconst (v := (nI 1)) hx hb dX8_isOpen_9 (by decide) ?_
    refine lv_goto (tgt := 14) hx hb dX8_isOpen_10 (by decide) ?_
    refine fs_pzret E hr rfl hlk hS dX8_isOpen_14 ?_
    exact bI_t c_6

set_option maxRecDepth 100000 in
set_option maxHeartbeats 4000000 in
theorem c_X8_suits (l : Launch) (g : fG) (N : Nat) (ct : Nat → va_E) (z : Nat → Int32) (F : Nat → Nat → Int32) (σ : Nat → Int32) (hN : 249 ≤ N) (hG : Good σ) (hM : MA g ct z F) (hT : SR σ F) (x y v : Int32) : Met l yX8_suits (wsU yX8_suits cX8_suits 4 (some .boolean)) rX8_suits (fPre g N ct [.ref (fa g 239), .int x, .int y, .int v]) (fQpi (fun r => r = bI (sux (nB σ) x y v))) 0 0 (fB g) := by
  refine fs_start (own := RX8) (lv0 := [(0, .ref (fa g 239)), (1, .int x), (2, .int y), (3, .int v)]) (by decide) rfl (Nat.le_of_ble_eq_true rfl) rfl ?_
  intro p e s m args below meth c ls E hr hlk hnm hP hl hS
  have hx := E.1.1
  have hb := E.1.2.1
  have m_1o : ct 239 = .inr (8, [.ref (fa g 240), .ref (fa g 241), .int (z 0), .ref (fa g 242), .ref (fa g 243), .ref (fa g 244), .int (z 1), .ref (fa g 245), .int (z 2), .ref (fa g 246), .ref (fa g 247), .ref (fa g 248), .int (z 3), .int (z 4), .int (z 5), .int (z 6), .int (z 7), .int (z 8), .int (z 9)]) := (hM).1
  have m_1r0 : ct 240 = .inl (fcI g, 121, .inl (F 0)) := (hM).2.1
  have m_1r1 : ct 241 = .inl (fcI g, 726, .inl (F 1)) := (hM).2.2.1
  have m_1r2 : ct 242 = .inl (fcI g, 242, .inl (F 2)) := (hM).2.2.2.1
  have m_1r3 : ct 243 = .inl (fcI g, 2, .inl (F 3)) := (hM).2.2.2.2.1
  have m_1r4 : ct 244 = .inl (fcI g, 60, .inl (F 4)) := (hM).2.2.2.2.2.1
  have m_1r5 : ct 245 = .inl (fcI g, 6, .inl (F 5)) := (hM).2.2.2.2.2.2.1
  have m_1r6 : ct 246 = .inl (fcI g, 36, .inl (F 6)) := (hM).2.2.2.2.2.2.2.1
  have m_1r7 : ct 247 = .inl (fcI g, 20, .inl (F 7)) := (hM).2.2.2.2.2.2.2.2.1
  have m_1r8 : ct 248 = .inl (fcI g, 20, .inl (F 8)) := (hM).2.2.2.2.2.2.2.2.2
  have hn3 := hG.n3
  have hn6 := hG.n6
  have hk20 := hG.k
  refine lv_iload_n hx hb dX8_suits_0 rfl (lv_at hl 1 rfl) ?_
  refine lv_iconst (v := (nI 0)) hx hb dX8_suits_1 (by decide) ?_
  refine lv_iconst (v := (nI 5)) hx hb dX8_suits_2 (by decide) ?_
  refine fs_pi (va_runS (As := [.int x, .int (nI 0), .int (nI 5)]) (rest := []) E.1 (c_X8_within l g N ct x (nI 0) (nI 5)) (lk_RX8_49 E.1.2.2.2.2 ⟨Nat.le_of_ble_eq_true rfl, Nat.le_of_ble_eq_true rfl⟩) (fpreS E hP hS) rfl rfl hl.1 rfl (lv_room (Nat.le_of_ble_eq_true rfl)) dX8_suits_3 ⟨Nat.zero_le _, Nat.zero_le _⟩) hS (fun r_3 locs p_3 hS => ?_)
  refine lv_if_ne (tgt := 11) hx hb dX8_suits_6 (by decide) (fun c_6 => ?_) (fun c_6 => ?_)
  · have c_6 := (fb_1 p_3).mp c_6
    refine lv_aload_n hx hb dX8_suits_11 rfl (lv_at hl 0 rfl) ?_
    refine lv_iload_n hx hb dX8_suits_12 rfl (lv_at hl 2 rfl) ?_
    refine fs_pi (va_runV (As := [.int y]) (rest := []) E.1 (c_X8_isBox l g N ct z F σ (by omega) hG hM hT y) (lk_RX8_57 E.1.2.2.2.2 ⟨Nat.le_of_ble_eq_true rfl, Nat.le_of_ble_eq_true rfl⟩) (fpreV E hP hS fc8 m_1o (by omega)) rfl rfl hl.1 rfl (lv_room (Nat.le_of_ble_eq_true rfl)) dX8_suits_13 ⟨Nat.zero_le _, Nat.zero_le _⟩) hS (fun r_13 locs p_13 hS => ?_)
    refine lv_if_eq (tgt := 59) hx hb dX8_suits_16 (by decide) (fun c_16 => ?_) (fun c_16 => ?_)
    · have c_16 := (fb_0 p_13).mp c_16
      refine lv_iconst (v := (nI 0)) hx hb dX8_suits_59 (by decide) ?_
      refine fs_pzret E hr rfl hlk hS dX8_suits_60 ?_
      have e0 : (nI 0).toInt = 0 := rfl
      have e5 : (nI 5).toInt = 5 := rfl
      have e6 : (nI 6).toInt = 6 := rfl
      rw [e0, e5] at c_6
      try rw [e0, e6] at c_31
      exact bI_f (by unfold sux; omega)
    · have c_16 := (fb_1 p_13).mp c_16
      refine lv_iload_n hx hb dX8_suits_19 rfl (lv_at hl 1 rfl) ?_
      refine lv_iconst (v := (nI 4)) hx hb dX8_suits_20 (by decide) ?_
      refine lv_icmp_ne (tgt := 37) hx hb dX8_suits_21 (by decide) (fun c_21 => ?_) (fun c_21 => ?_)
      · rw [fn_eq (by omega)] at c_21
        refine lv_aload_n hx hb dX8_suits_37 rfl (lv_at hl 0 rfl) ?_
        refine lv_iload_n hx hb dX8_suits_38 rfl (lv_at hl 3 rfl) ?_
        refine fs_pi (va_runV (As := [.int v]) (rest := []) E.1 (c_X8_isBox l g N ct z F σ (by omega) hG hM hT v) (lk_RX8_57 E.1.2.2.2.2 ⟨Nat.le_of_ble_eq_true rfl, Nat.le_of_ble_eq_true rfl⟩) (fpreV E hP hS fc8 m_1o (by omega)) rfl rfl hl.1 rfl (lv_room (Nat.le_of_ble_eq_true rfl)) dX8_suits_39 ⟨Nat.zero_le _, Nat.zero_le _⟩) hS (fun r_39 locs p_39 hS => ?_)
        refine lv_if_eq (tgt := 59) hx hb dX8_suits_42 (by decide) (fun c_42 => ?_) (fun c_42 => ?_)
        · have c_42 := (fb_0 p_39).mp c_42
          refine lv_iconst (v := (nI 0)) hx hb dX8_suits_59 (by decide) ?_
          refine fs_pzret E hr rfl hlk hS dX8_suits_60 ?_
          have e0 : (nI 0).toInt = 0 := rfl
          have e5 : (nI 5).toInt = 5 := rfl
          have e6 : (nI 6).toInt = 6 := rfl
          rw [e0, e5] at c_6
          try rw [e0, e6] at c_31
          exact bI_f (by unfold sux; omega)
        · have c_42 := (fb_1 p_39).mp c_42
          refine lv_iload_n hx hb dX8_suits_45 rfl (lv_at hl 1 rfl) ?_
          refine lv_iconst (v := (nI 5)) hx hb dX8_suits_46 (by decide) ?_
          refine lv_icmp_eq (tgt := 55) hx hb dX8_suits_47 (by decide) (fun c_47 => ?_) (fun c_47 => ?_)
          · rw [fn_eq (by omega)] at c_47
            refine lv_iconst (v := (nI 1)) hx hb dX8_suits_55 (by decide) ?_
            refine lv_goto (tgt := 60) hx hb dX8_suits_56 (by decide) ?_
            refine fs_pzret E hr rfl hlk hS dX8_suits_60 ?_
            have e0 : (nI 0).toInt = 0 := rfl
            have e5 : (nI 5).toInt = 5 := rfl
            have e6 : (nI 6).toInt = 6 := rfl
            rw [e0, e5] at c_6
            try rw [e0, e6] at c_31
            exact bI_t (by unfold sux; omega)
          · rw [fn_eq (by omega)] at c_47
            refine lv_iload_n hx hb dX8_suits_50 rfl (lv_at hl 2 rfl) ?_
            refine lv_iload_n hx hb dX8_suits_51 rfl (lv_at hl 3 rfl) ?_
            refine lv_icmp_eq (tgt := 59) hx hb dX8_suits_52 (by decide) (fun c_52 => ?_) (fun c_52 => ?_)
            · rw [← Int32.toInt_inj] at c_52
              refine lv_iconst (v := (nI 0)) hx hb dX8_suits_59 (by decide) ?_
              refine fs_pzret E hr rfl hlk hS dX8_suits_60 ?_
              have e0 : (nI 0).toInt = 0 := rfl
              have e5 : (nI 5).toInt = 5 := rfl
              have e6 : (nI 6).toInt = 6 := rfl
              rw [e0, e5] at c_6
              try rw [e0, e6] at c_31
              exact bI_f (by unfold sux; omega)
            · rw [← Int32.toInt_inj] at c_52
              refine lv_iconst (v := (nI 1)) hx hb dX8_suits_55 (by decide) ?_
              refine lv_goto (tgt := 60) hx hb dX8_suits_56 (by decide) ?_
              refine fs_pzret E hr rfl hlk hS dX8_suits_60 ?_
              have e0 : (nI 0).toInt = 0 := rfl
              have e5 : (nI 5).toInt = 5 := rfl
              have e6 : (nI 6).toInt = 6 := rfl
              rw [e0, e5] at c_6
              try rw [e0, e6] at c_31
              exact bI_t (by unfold sux; omega)
      · rw [fn_eq (by omega)] at c_21
        refine lv_iload_n hx hb dX8_suits_24 rfl (lv_at hl 3 rfl) ?_
        refine lv_iconst (v := (nI 0)) hx hb dX8_suits_25 (by decide) ?_
        refine lv_bipush (v := (nI 6)) hx hb dX8_suits_26 (by decide) ?_
        refine fs_pi (va_runS (As := [.int v, .int (nI 0), .int (nI 6)]) (rest := []) E.1 (c_X8_within l g N ct v (nI 0) (nI 6)) (lk_RX8_49 E.1.2.2.2.2 ⟨Nat.le_of_ble_eq_true rfl, Nat.le_of_ble_eq_true rfl⟩) (fpreS E hP hS) rfl rfl hl.1 rfl (lv_room (Nat.le_of_ble_eq_true rfl)) dX8_suits_28 ⟨Nat.zero_le _, Nat.zero_le _⟩) hS (fun r_28 locs p_28 hS => ?_)
        refine lv_if_eq (tgt := 59) hx hb dX8_suits_31 (by decide) (fun c_31 => ?_) (fun c_31 => ?_)
        · have c_31 := (fb_0 p_28).mp c_31
          refine lv_iconst (v := (nI 0)) hx hb dX8_suits_59 (by decide) ?_
          refine fs_pzret E hr rfl hlk hS dX8_suits_60 ?_
          have e0 : (nI 0).toInt = 0 := rfl
          have e5 : (nI 5).toInt = 5 := rfl
          have e6 : (nI 6).toInt = 6 := rfl
          rw [e0, e5] at c_6
          try rw [e0, e6] at c_31
          exact bI_f (by unfold sux; omega)
        · have c_31 := (fb_1 p_28).mp c_31
          refine lv_goto (tgt := 55) hx hb dX8_suits_34 (by decide) ?_
          refine lv_iconst (v := (nI 1)) hx hb dX8_suits_55 (by decide) ?_
          refine lv_goto (tgt := 60) hx hb dX8_suits_56 (by decide) ?_
          refine fs_pzret E hr rfl hlk hS dX8_suits_60 ?_
          have e0 : (nI 0).toInt = 0 := rfl
          have e5 : (nI 5).toInt = 5 := rfl
          have e6 : (nI 6).toInt = 6 := rfl
          rw [e0, e5] at c_6
          try rw [e0, e6] at c_31
          exact bI_t (by unfold sux; omega)
  · have c_6 := (fb_0 p_3).mp c_6
    refine lv_iconst (v := (nI 0)) hx hb dX8_suits_9 (by decide) ?_
    refine fs_pzret E hr rfl hlk hS dX8_suits_10 ?_
    have e0 : (nI 0).toInt = 0 := rfl
    have e5 : (nI 5).toInt = 5 := rfl
    have e6 : (nI 6).toInt = 6 := rfl
    rw [e0, e5] at c_6
    try rw [e0, e6] at c_31
    exact bI_f (by unfold sux; omega)

set_option maxRecDepth 100000 in
set_option maxHeartbeats 4000000 in
theorem c_X8_lookers (l : Launch) (g : fG) (N : Nat) (ct : Nat → va_E) (z : Nat → Int32) (F : Nat → Nat → Int32) (σ : Nat → Int32) (hN : 249 ≤ N) (hG : Good σ) (hM : MA g ct z F) (hT : SR σ F) (w : Nat → Nat) (hw : Wok (nB σ) w) (hW : WR σ w F) (b : Nat) (hb9 : b < 1000) : Met l yX8_lookers (wsU yX8_lookers cX8_lookers 4 (some .int)) rX8_lookers (fPre g N ct [.ref (fa g 239), .int (nI b)]) (fQpi (fun r => r = nI (cN (fun p => decide (w p = b)) (nB σ)))) 0 0 (fB g) := by
  refine fs_start (own := RX8) (lv0 := [(0, .ref (fa g 239)), (1, .int (nI b))]) (by decide) rfl (Nat.le_of_ble_eq_true rfl) rfl ?_
  intro p e s m args below meth c ls E hr hlk hnm hP hl hS
  have hx := E.1.1
  have hb := E.1.2.1
  have m_1o : ct 239 = .inr (8, [.ref (fa g 240), .ref (fa g 241), .int (z 0), .ref (fa g 242), .ref (fa g 243), .ref (fa g 244), .int (z 1), .ref (fa g 245), .int (z 2), .ref (fa g 246), .ref (fa g 247), .ref (fa g 248), .int (z 3), .int (z 4), .int (z 5), .int (z 6), .int (z 7), .int (z 8), .int (z 9)]) := (hM).1
  have m_1r0 : ct 240 = .inl (fcI g, 121, .inl (F 0)) := (hM).2.1
  have m_1r1 : ct 241 = .inl (fcI g, 726, .inl (F 1)) := (hM).2.2.1
  have m_1r2 : ct 242 = .inl (fcI g, 242, .inl (F 2)) := (hM).2.2.2.1
  have m_1r3 : ct 243 = .inl (fcI g, 2, .inl (F 3)) := (hM).2.2.2.2.1
  have m_1r4 : ct 244 = .inl (fcI g, 60, .inl (F 4)) := (hM).2.2.2.2.2.1
  have m_1r5 : ct 245 = .inl (fcI g, 6, .inl (F 5)) := (hM).2.2.2.2.2.2.1
  have m_1r6 : ct 246 = .inl (fcI g, 36, .inl (F 6)) := (hM).2.2.2.2.2.2.2.1
  have m_1r7 : ct 247 = .inl (fcI g, 20, .inl (F 7)) := (hM).2.2.2.2.2.2.2.2.1
  have m_1r8 : ct 248 = .inl (fcI g, 20, .inl (F 8)) := (hM).2.2.2.2.2.2.2.2.2
  have hn3 := hG.n3
  have hn6 := hG.n6
  have hk20 := hG.k
  refine lv_iconst (v := (nI 0)) hx hb dX8_lookers_0 (by decide) ?_
  refine lv_istore_n (lv' := [(2, .int (nI 0)), (0, .ref (fa g 239)), (1, .int (nI b))]) hx hb dX8_lookers_1 rfl hl (by decide) rfl (fun ls hl => ?_)
  refine lv_iconst (v := (nI 0)) hx hb dX8_lookers_2 (by decide) ?_
  refine lv_istore_n (lv' := [(3, .int (nI 0)), (2, .int (nI 0)), (0, .ref (fa g 239)), (1, .int (nI b))]) hx hb dX8_lookers_3 rfl hl (by decide) rfl (fun ls hl => ?_)
  refine fs_indP (g := g) (St := Nat) (fun (i : Nat) (ls : Array Slot) => lv_has ls 4 [(0, .ref (fa g 239)), (1, .int (nI b)), (2, .int (nI (cN (fun p => decide (w p = b)) i))), (3, .int (nI i))] ∧ i ≤ nB σ) (fun (i : Nat) => nB σ - i) ?_ 0 ls _ ⟨lv_sub hl [2, 3, 1, 0] rfl, Nat.zero_le _⟩ hS
  clear hl hS
  intro st ls locs hI hS ih
  obtain ⟨i, rfl⟩ : ∃ z, z = st := ⟨_, rfl⟩
  obtain ⟨hl, hI⟩ := hI
  refine lv_iload_n hx hb dX8_lookers_4 rfl (lv_at hl 3 rfl) ?_
  refine lv_aload_n hx hb dX8_lookers_5 rfl (lv_at hl 0 rfl) ?_
  refine fs_get E hP (k := 239) (v := .ref (fa g 240)) 0 fc8 m_1o (by omega) (by decide) (wm wl_5 (i := 0) rfl) rfl dX8_lookers_6 ?_
  refine lv_iconst (v := (nI 0)) hx hb dX8_lookers_9 (by decide) ?_
  refine fs_iald E hP (k := 240) m_1r0 (by omega) (vp_in_nI (by omega) (by omega)) dX8_lookers_10 ?_
  refine fs_vi (y := (F 0) 0) (congrArg (F 0) (nI_clamp (by omega))) ?_
  refine fs_vi (y := (nI (nB σ))) (hT.n hG) ?_
  refine lv_icmp_ge (tgt := 38) hx hb dX8_lookers_11 (by decide) (fun c_11 => ?_) (fun c_11 => ?_)
  · rw [nI_leI (by omega) (by omega)] at c_11
    refine lv_iload_n hx hb dX8_lookers_38 rfl (lv_at hl 2 rfl) ?_
    refine fs_piret E hr hlk hS dX8_lookers_39 ?_
    rw [show nB σ = i by omega]
  · rw [nI_leI (by omega) (by omega)] at c_11
    have hwi := hw i (by omega)
    refine lv_iload_n hx hb dX8_lookers_14 rfl (lv_at hl 2 rfl) ?_
    refine lv_aload_n hx hb dX8_lookers_15 rfl (lv_at hl 0 rfl) ?_
    refine fs_get E hP (k := 239) (v := .ref (fa g 245)) 7 fc8 m_1o (by omega) (by decide) (wm wl_5 (i := 5) rfl) rfl dX8_lookers_16 ?_
    refine lv_iload_n hx hb dX8_lookers_19 rfl (lv_at hl 3 rfl) ?_
    refine fs_iald E hP (k := 245) m_1r5 (by omega) (vp_in_nI (by omega) (by omega)) dX8_lookers_20 ?_
    refine fs_vi (y := (F 5) i) (congrArg (F 5) (nI_clamp (by omega))) ?_
    refine fs_vi (y := (nI (w i))) (hW i (by omega)) ?_
    refine lv_iload_n hx hb dX8_lookers_21 rfl (lv_at hl 1 rfl) ?_
    refine lv_icmp_ne (tgt := 29) hx hb dX8_lookers_22 (by decide) (fun c_22 => ?_) (fun c_22 => ?_)
    · rw [nI_eq (by omega) (by omega)] at c_22
      refine lv_iconst (v := (nI 0)) hx hb dX8_lookers_29 (by decide) ?_
      refine lv_iadd hx hb dX8_lookers_30 ?_
      refine fs_vi (y := (nI (cN (fun p => decide (w p = b)) (i + 1)))) (by rw [cN_f (decide_eq_false c_22)]; exact nI_add _ 0) ?_
      refine lv_istore_n (lv' := [(2, .int (nI (cN (fun p => decide (w p = b)) (i + 1)))), (0, .ref (fa g 239)), (1, .int (nI b)), (3, .int (nI i))]) hx hb dX8_lookers_31 rfl hl (by decide) rfl (fun ls hl => ?_)
      refine lv_iinc (v := (nI (i + 1))) (lv' := [(3, .int (nI (i + 1))), (2, .int (nI (cN (fun p => decide (w p = b)) (i + 1)))), (0, .ref (fa g 239)), (1, .int (nI b))]) hx hb dX8_lookers_32 hl (k := 3) rfl (nI_1 _) (by decide) rfl (fun ls hl => ?_)
      refine lv_goto (tgt := 4) hx hb dX8_lookers_35 (by decide) ?_
      exact ih (i + 1) ls _ (by (try dsimp only); omega) ⟨lv_sub hl [2, 3, 1, 0] rfl, by omega⟩ hS
    · rw [nI_eq (by omega) (by omega)] at c_22
      refine lv_iconst (v := (nI 1)) hx hb dX8_lookers_25 (by decide) ?_
      refine lv_goto (tgt := 30) hx hb dX8_lookers_26 (by decide) ?_
      refine lv_iadd hx hb dX8_lookers_30 ?_
      refine fs_vi (y := (nI (cN (fun p => decide (w p = b)) (i + 1)))) (by rw [cN_t (decide_eq_true c_22)]; exact nI_1 _) ?_
      refine lv_istore_n (lv' := [(2, .int (nI (cN (fun p => decide (w p = b)) (i + 1)))), (0, .ref (fa g 239)), (1, .int (nI b)), (3, .int (nI i))]) hx hb dX8_lookers_31 rfl hl (by decide) rfl (fun ls hl => ?_)
      refine lv_iinc (v := (nI (i + 1))) (lv' := [(3, .int (nI (i + 1))), (2, .int (nI (cN (fun p => decide (w p = b)) (i + 1)))), (0, .ref (fa g 239)), (1, .int (nI b))]) hx hb dX8_lookers_32 hl (k := 3) rfl (nI_1 _) (by decide) rfl (fun ls hl => ?_)
      refine lv_goto (tgt := 4) hx hb dX8_lookers_35 (by decide) ?_
      exact ih (i + 1) ls _ (by (try dsimp only); omega) ⟨lv_sub hl [2, 3, 1, 0] rfl, by omega⟩ hS
