/-! THE WALK'S CONTRACTS, by depth. Mine. -/
theorem kWR.sm0 {O : kO} {lt : Nat → Int} {i : Int} {tm : Int} {tr sh sg : Nat → Int} {sm : Int} (h : kWR O lt i 0 tm tr sh sg sm) (hO : kOi O) (hi : 0 ≤ i ∧ i ≤ 10) : 0 ≤ sm ∧ sm ≤ 40 := by
  have := m_si_rg hO.2.1 i.toNat
  have := h.2.1
  omega
def kWk (w : kW) (bd : Nat → Nat) (nr : Nat) (g : Nat → Nat → Int) (T : Nat) (cs ams ltA acA mnA : Nat → Int) (rel fnd sz : Int) (rx : Nat → Int) (N : Nat → Nat) (tm : Int) (tr sh sg : Nat → Int) (sm dp th : Int) (O : kO) (s i j L a c : Int) (d : Nat) : Prop :=
  kMd w bd nr g T cs ams ltA acA mnA rel fnd sz rx N tm tr sh sg sm dp th ∧ kLt rx ∧ (∀ x, N x ≤ 1000) ∧ kWf g nr ∧ nr ≤ 12 ∧ (∀ r, r < nr → mnA r = m_np g r) ∧ kTr N g nr rx c ∧ (1 ≤ c ∧ c ≤ 10) ∧
  m_isS s ∧ (0 ≤ i ∧ i ≤ j ∧ j < c) ∧ 0 < m_part (m_TT g nr rx) rx s i j ∧ m_M s i j < (d : Int) ∧ (0 ≤ L ∧ L + m_M s i j ≤ 95) ∧ O.1 + m_M s i j ≤ 95 ∧ kOi O ∧
  kWR O rx i (O.2.2.2.1 i.toNat) tm tr sh sg sm ∧ dp = (if O.2.2.2.2.1 < L then L else O.2.2.2.2.1) ∧ ∀ p : Nat, i ≤ (p : Int) → (p : Int) ≤ j → O.2.2.1 p = a
def kWp (w w2 : kW) (bd : Nat → Nat) (nr : Nat) (g : Nat → Nat → Int) (T : Nat) (cs ams ltA acA mnA : Nat → Int) (rel fnd sz : Int) (rx : Nat → Int) (N : Nat → Nat) (th : Int) (R : kO) (j : Int) : Prop :=
  ∃ (tm : Int) (tr sh sg : Nat → Int) (sm : Int), kMd w2 bd nr g T cs ams ltA acA mnA rel fnd sz rx N tm tr sh sg sm R.2.2.2.2.1 th ∧ kWR R rx (j + 1) 0 tm tr sh sg sm ∧ kEx w w2 kMk
/-- the walk of a symbol's tree, up to a depth d -/
def kSeC (E : kE) (l : Launch) (d : Nat) : Prop := ∀ {w : kW} {bd : Nat → Nat} {nr : Nat} {g : Nat → Nat → Int} {T : Nat} {cs ams ltA acA mnA : Nat → Int} {rel fnd sz : Int} {rx : Nat → Int} {N : Nat → Nat} {tm : Int} {tr sh sg : Nat → Int} {sm dp th : Int} {O : kO} {s i j L a c : Int}, kWk w bd nr g T cs ams ltA acA mnA rel fnd sz rx N tm tr sh sg sm dp th O s i j L a c d →
  kM E l yX7_sees (.code yX7_sees cX7_sees 6 none :: kAL) { frames := 2 * d + 8, cells := 0, slots := 0, locals := 55 * d + 200 } 0 0 [.ref (bd 25), .int (iI s), .int (iI i), .int (iI j), .int (iI (L + 1)), .int (iI a)] w (pV (fun w2 => kWp w w2 bd nr g T cs ams ltA acA mnA rel fnd sz rx N th (m_run g nr rx d s i j L O) j))
