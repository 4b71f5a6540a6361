theorem m_si_rg {f : Nat → Int} (h : ∀ p, 0 ≤ f p ∧ f p ≤ 3) : ∀ n : Nat, 0 ≤ m_si f n ∧ m_si f n ≤ 3 * (n : Int)
  | 0 => by unfold m_si; omega
  | n + 1 => by
    have a := m_si_rg h n
    have b := h n
    unfold m_si
    omega
theorem kLk_Pk : ∀ x, kLk x → kPk x := fun x h => Or.inl (by have := h.2; omega)
theorem m_lay_lc {g : Nat → Nat → Int} {nr : Nat} {lt : Nat → Int} {c : Int} {O : kO} (hwf : kWf g nr) (hc : 1 ≤ c ∧ c ≤ 10) : 0 ≤ (m_lay g nr lt c O).2.2.2.2.2 ∧ (m_lay g nr lt c O).2.2.2.2.2 ≤ 10 := by
  rw [(m_lay_cnt hwf hc).2.2]
  split <;> omega
/-- the signs of the formatted text -/
def m_ns (O : kO) : Int := O.2.2.2.2.2 + m_si O.2.2.2.1 10
theorem m_ns_rg {O : kO} (h : kOi O) (h2 : 0 ≤ O.2.2.2.2.2 ∧ O.2.2.2.2.2 ≤ 10) : 0 ≤ m_ns O ∧ m_ns O ≤ 40 := by
  have := m_si_rg h.2.1 10
  unfold m_ns
  omega
theorem m_sg_rg {ga lt : Nat → Int} (h : kLt lt) : ∀ {n p : Nat} {x y : Int}, 0 ≤ m_sg ga lt x n p y ∧ m_sg ga lt x n p y < 65536
  | 0, p, x, y => by unfold m_sg; omega
  | n + 1, p, x, y => by
    have a := h p
    have b := m_sg_rg (ga := ga) h (n := n) (p := p + 1) (x := x) (y := y + ga p + 1)
    unfold m_sg
    split
    · omega
    · split
      · omega
      · exact b
