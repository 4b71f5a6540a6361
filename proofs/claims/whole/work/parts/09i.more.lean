/-! Small things for the Model's face. Mine. -/
theorem kOi_00 : kOi kO0 := ⟨fun p => by show (0 : Int) ≤ 0 ∧ (0 : Int) ≤ 9; decide, fun p => by show (0 : Int) ≤ 0 ∧ (0 : Int) ≤ 3; decide, by show (0 : Int) ≤ 0 ∧ (0 : Int) ≤ 95; decide, fun p => by show (0 : Int) ≤ 0 ∧ (0 : Int) < 12; decide⟩
theorem m_tc_le {P : Nat → Prop} {T : Nat} (h : T ≤ 6) : 0 ≤ m_tc (fun t => t < T ∧ P t) 6 ∧ m_tc (fun t => t < T ∧ P t) 6 ≤ (T : Int) := by
  rw [m_tc_T 6 h]
  exact m_tc_rg T
