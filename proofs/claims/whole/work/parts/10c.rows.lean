/-! SAME VALUES. Mine. -/
def m_w (z : Int) : Int := (iI z).toInt
section KSAME
variable {E : kE} {X : kX} {cc : ByteArray} {own : String} {nL k n pc : Nat} {rm : Room} {w : kW} {lv : List (Nat × Value)} {st : List Value}
theorem k_i2lW (h : kOk E X cc own nL rm) {z : Int} (hdg : decode cc pc = .ok (.i2l, 1)) (kk : kG E X nL k n w (pc + 1) lv (.long (lI (m_w z)) :: st)) : kG E X nL k n w pc lv (.int (iI z) :: st) := by
  have q := k_i2l (st := st) (lv := lv) (k := k) (n := n) (w := w) h (z := m_w z) (iI_rg _) hdg kk
  rw [show iI (m_w z) = iI z from iI_of _] at q
  exact q
theorem k_lcmpS (h : kOk E X cc own nL rm) {x : Int64} (hdg : decode cc pc = .ok (.lcmp, 1)) (kk : kG E X nL k n w (pc + 1) lv (.int (iI 0) :: st)) : kG E X nL k n w pc lv (.long x :: .long x :: st) := k_lcmp h hdg (by
  have e : lg_cmp x x = iI 0 := by
    unfold lg_cmp
    rw [if_neg Int64.lt_irrefl, if_pos rfl]
    rfl
  rw [e]; exact kk)
theorem k_icmpS (h : kOk E X cc own nL rm) {x : Int32} {off : Int} (tgt : Nat) (hdg : decode cc pc = .ok (.if_icmp .eq off, 3)) (ht : (pc : Int) + off = (tgt : Int)) (kk : kG E X nL k n w tgt lv st) : kG E X nL k n w pc lv (.int x :: .int x :: st) := fun H locs ls hP hS hls => lv_icmp_eq h.1 h.2.1 hdg ht (fun _ => kk H locs ls hP hS hls) (fun q => absurd rfl q)
end KSAME
/-- the answers of the chosen tree, whatever the layout held -/
theorem m_oz {g : Nat → Nat → Int} {nr : Nat} {lt : Nat → Int} {c : Int} {O : kO} (hwf : kWf g nr) (hc : 1 ≤ c ∧ c ≤ 10) : m_oe (m_lay g nr lt c O) (m_lay g nr lt c kO0) := m_oe_lay O kO0 hwf hc
theorem kSu.c10 {w : kW} {ad : Nat → Nat} {nr : Nat} {g : Nat → Nat → Int} {T : Nat} {lts : Nat → Nat → Int} {cs : Nat → Int} {acs : Nat → Nat → Int} {ams : Nat → Int} {rel fnd : Int} {Ns : Nat → Nat → Nat} (h : kSu w ad nr g T lts cs acs ams rel fnd Ns) {x : Int} (hx : 0 ≤ x ∧ x < (T : Int)) : kWf g nr ∧ (1 ≤ cs x.toNat ∧ cs x.toNat ≤ 10) := by
  obtain ⟨⟨a, b, c, d, e, f, i, j, k⟩, q⟩ := h
  exact ⟨c, (k x.toNat (by omega)).2.2.1⟩
abbrev kDl (N : Nat) (f : Nat → UInt64) : kC := ad N f
theorem kSu.T6 {w : kW} {ad : Nat → Nat} {nr : Nat} {g : Nat → Nat → Int} {T : Nat} {lts : Nat → Nat → Int} {cs : Nat → Int} {acs : Nat → Nat → Int} {ams : Nat → Int} {rel fnd : Int} {Ns : Nat → Nat → Nat} (h : kSu w ad nr g T lts cs acs ams rel fnd Ns) : T ≤ 6 := h.1.2.2.2.1.2
abbrev kP7 : Nat → Prop := fun x => x ≤ 17 ∨ 100 ≤ x
abbrev kP8 : Nat → Prop := fun x => x ≤ 16 ∨ x = 18 ∨ 100 ≤ x
theorem kPk_P7 : ∀ x, kPk x → kP7 x := fun x h => by rcases h with h | h; exact Or.inl (by omega); exact Or.inr h
theorem kPk_P8 : ∀ x, kPk x → kP8 x := fun x h => by rcases h with h | h; exact Or.inl h; exact Or.inr (Or.inr h)
theorem kP7_Pw : ∀ x, kP7 x → kPw x := fun x h => by rcases h with h | h; exact Or.inl (by omega); exact Or.inr h
theorem kP8_Pw : ∀ x, kP8 x → kPw x := fun x h => by rcases h with h | h | h; exact Or.inl (by omega); exact Or.inl (by omega); exact Or.inr h
theorem kPk_Pw : ∀ x, kPk x → kPw x := fun x h => by rcases h with h | h; exact Or.inl (by omega); exact Or.inr h
