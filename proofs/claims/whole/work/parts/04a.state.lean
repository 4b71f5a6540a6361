/-! THE STATE IN THE WORLD: spans, grammar. Mine. -/
def m_Cn (N : Nat → Nat) : Int → Int → Int → Nat := fun s i j => N (((s - 10) * 10 + i) * 10 + j).toNat
def m_tr (N : Nat → Nat) (lt : Nat → Int) (s i j : Int) : Nat := if s = -1 then (if j < i then 1 else 0) else if j < i then 0 else m_part (m_Cn N) lt s i j
abbrev kNm (N : Nat → Nat) : kC := ai 500 (fun x => ((N x : Nat) : Int))
def kSp (w : kW) (q a la na : Nat) (lt : Nat → Int) (N : Nat → Nat) (c : Int) : Prop := w q = some (a, ob 5 [.ref la, .ref na, .int (iI c)]) ∧ w (q + 1) = some (la, ai 10 lt) ∧ w (q + 2) = some (na, kNm N)
abbrev kRl (g : Nat → Nat → Int) (i : Nat) : kC := ob 4 [.int (iI (i : Int)), .int (iI (g 1 i)), .int (iI (g 2 i)), .int (iI (g 3 i)), .int (iI (g 4 i)), .int (iI (g 5 i)), .int (iI (g 6 i)), .int (iI (g 7 i)), .int (iI (g 8 i))]
def kPl (ra : Nat → Nat) (nr : Nat) : Nat → Option Nat := fun i => if i < nr then some (ra i) else none
/-- the grammar: nr rules were added, rule i at ra i, with the numbers g 1 i .. g 8 i -/
def kGr (w : kW) (ag ap nr : Nat) (ra : Nat → Nat) (g : Nat → Nat → Int) : Prop := w 1 = some (ag, ob 2 [.ref ap, .int (iI (nr : Int))]) ∧ w 2 = some (ap, aq 5 12 (kPl ra nr)) ∧ (∀ i, i < nr → w (100 + i) = some (ra i, kRl g i)) ∧ nr ≤ 12
/-- the numbers of a grammar's rules are in their ranges -/
def kWf (g : Nat → Nat → Int) (nr : Nat) : Prop := ∀ r, r < nr → m_wf g r ∧ (0 ≤ g 5 r ∧ g 5 r ≤ 9) ∧ (0 ≤ g 6 r ∧ g 6 r ≤ 9) ∧ (0 ≤ g 7 r ∧ g 7 r ≤ 3) ∧ (0 ≤ g 8 r ∧ g 8 r ≤ 1)
abbrev kLt (lt : Nat → Int) : Prop := ∀ p, 0 ≤ lt p ∧ lt p < 8
theorem m_tr_le {N : Nat → Nat} {lt : Nat → Int} {s i j : Int} (h : ∀ x, N x ≤ 1000) : m_tr N lt s i j ≤ 1000 := by
  unfold m_tr m_part
  (repeat' split) <;> first | omega | exact h _
theorem kSp.ex {w w2 : kW} {q a la na : Nat} {lt : Nat → Int} {N : Nat → Nat} {c : Int} {ks : Nat → Prop} (h : kSp w q a la na lt N c) (hw : kEx w w2 ks) (h0 : ¬ ks q) (h1 : ¬ ks (q + 1)) (h2 : ¬ ks (q + 2)) : kSp w2 q a la na lt N c := ⟨(hw _ h0).trans h.1, (hw _ h1).trans h.2.1, (hw _ h2).trans h.2.2⟩
theorem kSp.ne {w : kW} {q a la na : Nat} {lt : Nat → Int} {N : Nat → Nat} {c : Int} {k b : Nat} {d : kC} (h : kSp w q a la na lt N c) (h0 : q ≠ k) (h1 : q + 1 ≠ k) (h2 : q + 2 ≠ k) : kSp (kset w k b d) q a la na lt N c := ⟨(kset_ne h0).trans h.1, (kset_ne h1).trans h.2.1, (kset_ne h2).trans h.2.2⟩
theorem kSp.num {w : kW} {q a la na : Nat} {lt : Nat → Int} {N N2 : Nat → Nat} {c : Int} (h : kSp w q a la na lt N c) : kSp (kset w (q + 2) na (kNm N2)) q a la na lt N2 c := ⟨(kset_ne (by omega)).trans h.1, (kset_ne (by omega)).trans h.2.1, kset_eq⟩
theorem kSp.let {w : kW} {q a la na : Nat} {lt lt2 : Nat → Int} {N : Nat → Nat} {c : Int} (h : kSp w q a la na lt N c) : kSp (kset w (q + 1) la (ai 10 lt2)) q a la na lt2 N c := ⟨(kset_ne (by omega)).trans h.1, kset_eq, (kset_ne (by omega)).trans h.2.2⟩
theorem kSp.cnt {w : kW} {q a la na : Nat} {lt : Nat → Int} {N : Nat → Nat} {c c2 : Int} (h : kSp w q a la na lt N c) : kSp (kset w q a (ob 5 [.ref la, .ref na, .int (iI c2)])) q a la na lt N c2 := ⟨kset_eq, (kset_ne (by omega)).trans h.2.1, (kset_ne (by omega)).trans h.2.2⟩
theorem kGr.ne {w : kW} {ag ap nr : Nat} {ra : Nat → Nat} {g : Nat → Nat → Int} {k b : Nat} {d : kC} (h : kGr w ag ap nr ra g) (h1 : 1 ≠ k) (h2 : 2 ≠ k) (h3 : k < 100 ∨ 112 ≤ k) : kGr (kset w k b d) ag ap nr ra g := ⟨(kset_ne h1).trans h.1, (kset_ne h2).trans h.2.1, fun i hi => (kset_ne (by have := h.2.2.2; omega)).trans (h.2.2.1 i hi), h.2.2.2⟩
theorem kGr.ex {w w2 : kW} {ag ap nr : Nat} {ra : Nat → Nat} {g : Nat → Nat → Int} {ks : Nat → Prop} (h : kGr w ag ap nr ra g) (hw : kEx w w2 ks) (h1 : ¬ ks 1) (h2 : ¬ ks 2) (h3 : ∀ i, i < 12 → ¬ ks (100 + i)) : kGr w2 ag ap nr ra g := ⟨(hw _ h1).trans h.1, (hw _ h2).trans h.2.1, fun i hi => (hw _ (h3 i (by have := h.2.2.2; omega))).trans (h.2.2.1 i hi), h.2.2.2⟩
