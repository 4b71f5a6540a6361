theorem m_tf_rg2 {P : Nat → Prop} {f : Nat → Int} (hf : ∀ k, 0 ≤ f k ∧ f k ≤ 1000) : ∀ n : Nat, 0 ≤ m_tf P f n ∧ m_tf P f n ≤ 1000 * (n : Int)
  | 0 => by unfold m_tf; omega
  | n + 1 => by
    have h := m_tf_rg2 (P := P) hf n
    have := hf n
    unfold m_tf
    split <;> omega
theorem m_TTi {g : Nat → Nat → Int} {nr : Nat} {row : Nat → Int} {nm i j : Int} : 0 ≤ ((m_TT g nr row nm i j : Nat) : Int) ∧ ((m_TT g nr row nm i j : Nat) : Int) ≤ 1000 := by
  have := m_TT_le (g := g) (nr := nr) (row := row) (nm := nm) (i := i) (j := j)
  omega
