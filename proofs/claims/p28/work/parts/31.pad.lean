/-! the String constant of the signs -/
def fk (g : fG) : Nat := g.2.2.2.1
def fv (g : fG) : Nat := g.2.2.2.2
def kdn (c : Nat) : Nat := if c = 62 then 0 else if c = 47 then 1 else if c = 61 then 2 else if c = 126 then 3 else if c = 35 then 4 else if c = 42 then 5 else 6
def kdI (c : Nat) : Int32 := if kdn c = 6 then -1 else nI (kdn c)
def sixN (j : Nat) : Nat := if j = 0 then 62 else if j = 1 then 47 else if j = 2 then 61 else if j = 3 then 126 else if j = 4 then 35 else 42
theorem kdn_le (c : Nat) : kdn c ≤ 6 := by unfold kdn; (repeat' split) <;> omega
theorem six_at {j : Nat} (h : j < 6) : Value.int (([[(62 : Int32), 47, 61, 126, 35, 42]].getD 0 []).getD (nI j).toNatClampNeg 0) = .int (nI (sixN j)) := by
  rw [nI_clamp (by omega)]
  rcases (show j = 0 ∨ j = 1 ∨ j = 2 ∨ j = 3 ∨ j = 4 ∨ j = 5 by omega) with rfl | rfl | rfl | rfl | rfl | rfl <;> rfl
theorem six_hit {j c : Nat} (h : j < 6) (e : sixN j = c) : nI j = kdI c := by
  rcases (show j = 0 ∨ j = 1 ∨ j = 2 ∨ j = 3 ∨ j = 4 ∨ j = 5 by omega) with rfl | rfl | rfl | rfl | rfl | rfl <;> (subst e; rfl)
theorem six_no {c : Nat} (h : ∀ j, j < 6 → ¬ sixN j = c) : (-1 : Int32) = kdI c := by
  have h0 := h 0 (by omega); have h1 := h 1 (by omega); have h2 := h 2 (by omega); have h3 := h 3 (by omega); have h4 := h 4 (by omega); have h5 := h 5 (by omega)
  simp only [sixN] at h0 h1 h2 h3 h4 h5
  have e : kdn c = 6 := by
    unfold kdn
    rw [if_neg (fun q => h0 (by rw [q]; rfl)), if_neg (fun q => h1 (by rw [q]; rfl)), if_neg (fun q => h2 (by rw [q]; rfl)), if_neg (fun q => h3 (by rw [q]; rfl)), if_neg (fun q => h4 (by rw [q]; rfl)), if_neg (fun q => h5 (by rw [q]; rfl))]
  unfold kdI; rw [e]; rfl
theorem byte_id : ∀ n, n < 128 → (nI n).toInt8.toInt32 = nI n := by decide +kernel
theorem kdI_lt {c : Nat} : kdI c < 0 ↔ kdn c = 6 := by
  unfold kdI
  have := kdn_le c
  by_cases e : kdn c = 6
  · rw [if_pos e]; exact ⟨fun _ => e, fun _ => by decide⟩
  · rw [if_neg e, fz_ltN (by omega)]; omega








