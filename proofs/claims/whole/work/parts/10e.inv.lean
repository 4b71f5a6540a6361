/-! WHAT HOLDS BETWEEN TWO CALLS OF THE LAW. Mine. -/
def kLI (w : kW) (a0 b0 aO aD : Nat) : Prop :=
  ∃ (ad bd : Nat → Nat) (nr : Nat) (g : Nat → Nat → Int) (T : Nat) (lts : Nat → Nat → Int) (cs : Nat → Int) (acs : Nat → Nat → Int) (ams : Nat → Int) (rel fnd th : Int) (Ns : Nat → Nat → Nat) (fO : Nat → Int) (fD : Nat → UInt64),
    ad 0 = a0 ∧ bd 25 = b0 ∧ w 17 = some (aO, al 1 fO) ∧ w 18 = some (aD, kDl 1 fD) ∧ kSu w ad nr g T lts cs acs ams rel fnd Ns ∧ kMu w bd nr g T lts cs acs ams rel fnd th
section KTOPD
variable {E : kE} {X : kX} {nL k n pc : Nat} {w : kW} {lv : List (Nat × Value)} {st : List Value}
theorem k_topD {z z' : UInt64} (e : z = z') (kk : kG E X nL k n w pc lv (.double z' :: st)) : kG E X nL k n w pc lv (.double z :: st) := e ▸ kk
end KTOPD
theorem kMu.obj {w : kW} {bd : Nat → Nat} {nr : Nat} {g : Nat → Nat → Int} {T : Nat} {lts : Nat → Nat → Int} {cs : Nat → Int} {acs : Nat → Nat → Int} {ams : Nat → Int} {rel fnd th : Int} (h : kMu w bd nr g T lts cs acs ams rel fnd th) : ∃ fs : List Value, w 19 = some (bd 25, .inr (9, fs)) := by
  obtain ⟨ltA, acA, mnA, sz, rx, N, tm, tr, sh, sg, sm, dp, hmd, h2⟩ := h
  exact ⟨_, hmd.1⟩
theorem kSu.acr {w : kW} {ad : Nat → Nat} {nr : Nat} {g : Nat → Nat → Int} {T : Nat} {lts : Nat → Nat → Int} {cs : Nat → Int} {acs : Nat → Nat → Int} {ams : Nat → Int} {rel fnd : Int} {Ns : Nat → Nat → Nat} {x : Int} {ac2 : Nat → Int} (h : kSu w ad nr g T lts cs (kup acs x.toNat ac2) ams rel fnd Ns) (hx : 0 ≤ x ∧ x < (T : Int)) : ∀ p, 0 ≤ ac2 p ∧ ac2 p < 12 := by
  obtain ⟨⟨a, b, c, d, e, f, i, j, k⟩, q⟩ := h
  have r := (k x.toNat (by omega)).2.2.2.2
  rw [kup_eq] at r
  exact r
