/-! STATE: the addresses of a new object. Mine. -/
def m_a0 (a0 a1 a2 a3 a4 a5 a6 a7 a8 a9 a10 a11 a12 a13 a14 a15 a16 : Nat) : Nat → Nat := fun x => match x with
  | 0 => a0 | 1 => a1 | 2 => a2 | 3 => a3 | 4 => a4 | 5 => a5 | 6 => a6 | 7 => a7 | 8 => a8 | 9 => a9 | 10 => a10 | 11 => a11 | 12 => a12 | 13 => a13 | 14 => a14 | 15 => a15 | _ => a16
abbrev k0a : Nat → Nat → Int := fun _ _ => 0
abbrev k0b : Nat → Int := fun _ => 0
abbrev k0n : Nat → Nat → Nat := fun _ _ => 0
theorem kSu.new {w : kW} {a0 a1 a2 a3 a4 a5 a6 a7 a15 a16 : Nat} {al : Nat → Nat} (h0 : w 0 = some (a0, ob 8 [.ref a1, .ref a3, .ref a4, .ref a7, .ref a15, .int (iI 0), .int (iI 0), .long (lI 0)])) (h1 : w 1 = some (a1, ob 2 [.ref a2, .int (iI 0)])) (h2 : w 2 = some (a2, aq 5 12 (fun _ => none))) (h3 : w 3 = some (a3, aq 6 6 (fun _ => none))) (h4 : kSp w 4 a4 a5 a6 (fun _ => 0) (fun _ => 0) 0) (hal : al 0 = a7) (h7 : kLy w al (0, fun _ => 0, fun _ => 0, fun _ => 0, 0, 0) (fun _ _ => 0) 0) (h15 : w 15 = some (a15, ob 7 [.ref a16])) (h16 : w 16 = some (a16, ai 500 (fun _ => 0))) :
    ∃ ad : Nat → Nat, ad 0 = a0 ∧ kSu w ad 0 k0a 0 k0a k0b k0a k0b 0 0 k0n := by
  refine ⟨m_a0 a0 a1 a2 a3 a4 a5 a6 a7 (al 1) (al 2) (al 3) (al 4) (al 5) (al 6) (al 7) a15 a16, rfl, ⟨h0, ⟨h1, ?_, fun i hi => by omega, by omega⟩, fun r hr => by omega, ⟨?_, by omega⟩, ⟨_, _, _, h4, fun p => by show (0 : Int) ≤ 0 ∧ (0 : Int) < 8; decide, fun x => Nat.zero_le _⟩, ⟨_, _, h7.cg (fun k hk => ?_), ?_⟩, ⟨h15, _, h16⟩, fun t ht => by omega, fun t ht => by omega⟩, fun t ht => by omega⟩
  · rw [show kPl (fun i => m_a0 a0 a1 a2 a3 a4 a5 a6 a7 (al 1) (al 2) (al 3) (al 4) (al 5) (al 6) (al 7) a15 a16 (100 + i)) 0 = fun _ => none from by funext x; unfold kPl; rw [if_neg (by omega)]]
    exact h2
  · rw [show kPl (fun t => m_a0 a0 a1 a2 a3 a4 a5 a6 a7 (al 1) (al 2) (al 3) (al 4) (al 5) (al 6) (al 7) a15 a16 (200 + 5 * t)) 0 = fun _ => none from by funext x; unfold kPl; rw [if_neg (by omega)]]
    exact h3
  · match k, hk with
    | 0, _ => exact hal.symm
    | 1, _ => rfl
    | 2, _ => rfl
    | 3, _ => rfl
    | 4, _ => rfl
    | 5, _ => rfl
    | 6, _ => rfl
    | 7, _ => rfl
  · exact ⟨fun p => by show (0 : Int) ≤ 0 ∧ (0 : Int) ≤ 9; decide, fun p => by show (0 : Int) ≤ 0 ∧ (0 : Int) ≤ 3; decide, by show (0 : Int) ≤ 0 ∧ (0 : Int) ≤ 95; decide, fun p => by show (0 : Int) ≤ 0 ∧ (0 : Int) < 12; decide⟩
