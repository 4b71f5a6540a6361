theorem m_natrg {x : Nat} (h : x ≤ 1000) : -2147483648 ≤ (x : Int) ∧ (x : Int) < 2147483648 := by omega
theorem m_mul_rg {a b : Nat} (ha : a ≤ 1000) (hb : b ≤ 1000) : -2147483648 ≤ (a : Int) * (b : Int) ∧ (a : Int) * (b : Int) < 2147483648 := by
  rw [← Int.natCast_mul]
  have := Nat.mul_le_mul ha hb
  generalize a * b = x at *
  omega
theorem m_add_rg {a b : Nat} (ha : a ≤ 1000) (hb : b ≤ 1000) : -2147483648 ≤ (a : Int) + (b : Int) ∧ (a : Int) + (b : Int) < 2147483648 := by omega
def m_live (g : Nat → Nat → Int) (nr : Nat) (x : Int) : Prop := 0 ≤ x ∧ x < (nr : Int) ∧ g 8 x.toNat = 0
