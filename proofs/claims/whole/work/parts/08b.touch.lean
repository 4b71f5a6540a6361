/-! PURE: rules that change, tables that stay. Mine. -/
def m_up (g : Nat → Nat → Int) (f r : Nat) (v : Int) : Nat → Nat → Int := fun a b => if a = f ∧ b = r then v else g a b
theorem m_up_eq {g : Nat → Nat → Int} {f r : Nat} {v : Int} : m_up g f r v f r = v := if_pos ⟨rfl, rfl⟩
theorem m_up_nf {g : Nat → Nat → Int} {f r a b : Nat} {v : Int} (h : a ≠ f) : m_up g f r v a b = g a b := if_neg (fun q => h q.1)
theorem m_up_nr {g : Nat → Nat → Int} {f r a b : Nat} {v : Int} (h : b ≠ r) : m_up g f r v a b = g a b := if_neg (fun q => h q.2)
def m_ad (g : Nat → Nat → Int) (r : Nat) (z1 z2 z3 z4 : Int) : Nat → Nat → Int := fun a b => if b = r then (if a = 1 then z1 else if a = 2 then z2 else if a = 3 then z3 else if a = 4 then z4 else 0) else g a b
theorem m_ad_nr {g : Nat → Nat → Int} {r a b : Nat} {z1 z2 z3 z4 : Int} (h : b ≠ r) : m_ad g r z1 z2 z3 z4 a b = g a b := if_neg h
theorem m_ad_r {g : Nat → Nat → Int} {r a : Nat} {z1 z2 z3 z4 : Int} : m_ad g r z1 z2 z3 z4 a r = if a = 1 then z1 else if a = 2 then z2 else if a = 3 then z3 else if a = 4 then z4 else 0 := if_pos rfl
theorem kRl_up {g : Nat → Nat → Int} {f r i : Nat} {v : Int} (h : i ≠ r) : kRl (m_up g f r v) i = kRl g i := by
  unfold kRl
  rw [m_up_nr h, m_up_nr h, m_up_nr h, m_up_nr h, m_up_nr h, m_up_nr h, m_up_nr h, m_up_nr h]
theorem kRl_ad {g : Nat → Nat → Int} {r i : Nat} {z1 z2 z3 z4 : Int} (h : i ≠ r) : kRl (m_ad g r z1 z2 z3 z4) i = kRl g i := by
  unfold kRl
  rw [m_ad_nr h, m_ad_nr h, m_ad_nr h, m_ad_nr h, m_ad_nr h, m_ad_nr h, m_ad_nr h, m_ad_nr h]
theorem m_wf_up {g : Nat → Nat → Int} {f r x : Nat} {v : Int} (h : 4 < f) : m_wf (m_up g f r v) x = m_wf g x := by
  unfold m_wf
  rw [m_up_nf (by omega), m_up_nf (by omega), m_up_nf (by omega), m_up_nf (by omega)]
theorem kWf.up {g : Nat → Nat → Int} {nr f r : Nat} {v : Int} (h : kWf g nr) (hf : (f = 5 ∧ 0 ≤ v ∧ v ≤ 9) ∨ (f = 6 ∧ 0 ≤ v ∧ v ≤ 9) ∨ (f = 7 ∧ 0 ≤ v ∧ v ≤ 3) ∨ (f = 8 ∧ 0 ≤ v ∧ v ≤ 1)) : kWf (m_up g f r v) nr := by
  intro x hx
  obtain ⟨a, b, c, d, e⟩ := h x hx
  refine ⟨by rw [m_wf_up (by omega)]; exact a, ?_, ?_, ?_, ?_⟩ <;> (unfold m_up; split <;> omega)
theorem kWf.ad {g : Nat → Nat → Int} {nr : Nat} {z1 z2 z3 z4 : Int} (h : kWf g nr) (hw : m_wf (m_ad g nr z1 z2 z3 z4) nr) : kWf (m_ad g nr z1 z2 z3 z4) (nr + 1) := by
  intro x hx
  by_cases e : x = nr
  · subst e
    refine ⟨hw, ?_, ?_, ?_, ?_⟩ <;> (rw [m_ad_r]; simp)
  · obtain ⟨a, b, c, d, e2⟩ := h x (by omega)
    refine ⟨?_, by rw [m_ad_nr e]; exact b, by rw [m_ad_nr e]; exact c, by rw [m_ad_nr e]; exact d, by rw [m_ad_nr e]; exact e2⟩
    unfold m_wf at a ⊢
    rw [m_ad_nr e, m_ad_nr e, m_ad_nr e, m_ad_nr e]
    exact a
theorem m_rs_eq {C : Int → Int → Int → Nat} {row : Nat → Int} {g g' : Nat → Nat → Int} {nm i j : Int} {r : Nat} (h1 : g 1 r = g' 1 r) (h2 : g 2 r = g' 2 r) (h3 : g 3 r = g' 3 r) (h4 : g 4 r = g' 4 r) (h8 : g 8 r = g' 8 r) : m_rs C row g nm i j r = m_rs C row g' nm i j r := by
  unfold m_rs; rw [h1, h2, h3, h4, h8]
theorem m_TT_same {g g' : Nat → Nat → Int} {nr : Nat} {row : Nat → Int} (h : ∀ r, r < nr → g 1 r = g' 1 r ∧ g 2 r = g' 2 r ∧ g 3 r = g' 3 r ∧ g 4 r = g' 4 r ∧ g 8 r = g' 8 r) {nm i j : Int} (hij : i ≤ j) : m_TT g nr row nm i j = m_TT g' nr row nm i j :=
  m_TT_change (lo := i) (hi := j) (fun C nm i j _ _ _ => m_sn_congr fun r hr => m_rs_eq (h r hr).1 (h r hr).2.1 (h r hr).2.2.1 (h r hr).2.2.2.1 (h r hr).2.2.2.2) (by omega) hij (by omega)
theorem kTr.up {N : Nat → Nat} {g : Nat → Nat → Int} {nr f r : Nat} {v : Int} {lt : Nat → Int} {c : Int} (h : kTr N g nr lt c) (hf : 4 < f ∧ f < 8) : kTr N (m_up g f r v) nr lt c := fun s i j a b d e => by
  rw [h s i j a b d e]
  exact m_TT_same (fun x _ => ⟨(m_up_nf (by omega)).symm, (m_up_nf (by omega)).symm, (m_up_nf (by omega)).symm, (m_up_nf (by omega)).symm, (m_up_nf (by omega)).symm⟩) d
/-- a rule with a letter that a text hasn't has no tree in it -/
theorem m_has_no {C : Int → Int → Int → Nat} {g : Nat → Nat → Int} {r : Nat} {lt : Nat → Int} {c i j : Int} (hn : ¬ m_has lt c g r) (hw : m_wf g r) (hi : 0 ≤ i) (hij : i ≤ j) (hj : j < c) : m_wy C lt (g 2 r) (g 3 r) (g 4 r) i j = 0 := by
  have h23 : g 3 r = -1 → g 4 r = -1 := fun e => by
    rcases hw.2.2 with q | q
    · exact q.2.1
    · exact absurd e (m_sym1 q.1)
  have key : ∀ s : Int, ¬ m_st lt c s → (s = g 2 r ∨ s = g 3 r ∨ s = g 4 r) → m_wy C lt (g 2 r) (g 3 r) (g 4 r) i j = 0 := by
    intro s hs hf
    unfold m_st at hs
    have hL : m_isL s := Classical.byContradiction fun q => hs (fun q2 => absurd q2 q)
    refine m_wy_no (s := s) hij hL hf h23 fun p a b e => hs (fun _ => ⟨p.toNat, by omega, e⟩)
  unfold m_has at hn
  by_cases h1 : m_st lt c (g 2 r)
  · by_cases h2 : m_st lt c (g 3 r)
    · exact key _ (fun q => hn ⟨h1, h2, q⟩) (Or.inr (Or.inr rfl))
    · exact key _ h2 (Or.inr (Or.inl rfl))
  · exact key _ h1 (Or.inl rfl)
theorem kTr.drop {N : Nat → Nat} {g : Nat → Nat → Int} {nr r : Nat} {lt : Nat → Int} {c : Int} (h : kTr N g nr lt c) (hw : m_wf g r) (hn : ¬ m_has lt c g r) : kTr N (m_up g 8 r 1) nr lt c := fun s i j a b d e => by
  rw [h s i j a b d e]
  refine m_TT_change (lo := 0) (hi := c - 1) (fun C nm i j h1 h2 h3 => m_sn_congr fun x hx => ?_) b d (by omega)
  by_cases ex : x = r
  · subst ex
    rw [m_rs_dead (g := m_up g 8 x 1) (fun q => by have := q.1; rw [m_up_eq] at this; omega)]
    unfold m_rs
    split
    · exact m_has_no hn hw h1 h2 (by omega)
    · rfl
  · exact m_rs_eq (m_up_nr ex).symm (m_up_nr ex).symm (m_up_nr ex).symm (m_up_nr ex).symm (m_up_nr ex).symm
theorem kTr.ad {N : Nat → Nat} {g : Nat → Nat → Int} {nr : Nat} {z1 z2 z3 z4 : Int} {lt : Nat → Int} {c : Int} (h : kTr N g nr lt c) (hw : m_wf (m_ad g nr z1 z2 z3 z4) nr) (hn : ¬ m_has lt c (m_ad g nr z1 z2 z3 z4) nr) : kTr N (m_ad g nr z1 z2 z3 z4) (nr + 1) lt c := fun s i j a b d e => by
  rw [h s i j a b d e]
  refine m_TT_change (lo := 0) (hi := c - 1) (fun C nm i j h1 h2 h3 => ?_) b d (by omega)
  rw [m_sn_succ, show m_rs C lt (m_ad g nr z1 z2 z3 z4) nm i j nr = 0 by
    unfold m_rs
    split
    · exact m_has_no hn hw h1 h2 (by omega)
    · rfl, Nat.add_zero]
  exact m_sn_congr fun x hx => m_rs_eq (m_ad_nr (by omega)).symm (m_ad_nr (by omega)).symm (m_ad_nr (by omega)).symm (m_ad_nr (by omega)).symm (m_ad_nr (by omega)).symm
/-- the form of a rule that the document allows -/
abbrev m_rf (a b c d : Int) : Prop := m_isN a ∧ m_isS b ∧ ((c = -1 ∧ d = -1 ∧ (m_isL b ∨ a < b)) ∨ (m_isS c ∧ (d = -1 ∨ m_isS d)))
theorem m_rf_wf {g : Nat → Nat → Int} {nr : Nat} {a b c d : Int} (h : m_rf a b c d) : m_wf (m_ad g nr a b c d) nr := by
  unfold m_wf
  rw [m_ad_r, m_ad_r, m_ad_r, m_ad_r]
  exact h
abbrev kPk : Nat → Prop := fun x => x ≤ 16 ∨ 100 ≤ x
def kSv (w w2 : kW) (ad : Nat → Nat) (nr : Nat) (g : Nat → Nat → Int) (T : Nat) (lts : Nat → Nat → Int) (cs : Nat → Int) (acs : Nat → Nat → Int) (ams : Nat → Int) (rel fnd : Int) (Ns : Nat → Nat → Nat) : Prop :=
  kSu w2 ad nr g T lts cs acs ams rel fnd Ns ∧ kEx w w2 kPk
theorem kEx.sub {w w2 : kW} {ks ls : Nat → Prop} (h : kEx w w2 ks) (hs : ∀ x, ks x → ls x) : kEx w w2 ls := fun x hx => h x (fun q => hx (hs x q))
theorem kTr_all {N : Nat → Nat} {g : Nat → Nat → Int} {nr : Nat} {lt : Nat → Int} {c : Int} (h : kTr N g nr lt c) (hc : 1 ≤ c ∧ c ≤ 10) : ((m_tr N lt 10 0 (c - 1) : Nat) : Int) = ((m_TT g nr lt 10 0 (c - 1) : Nat) : Int) := by
  rw [m_tr_s (by decide) (by omega), m_part_N (by decide), h 10 0 (c - 1) (by decide) (by omega) (by omega) (by omega)]
theorem kTr_over {N : Nat → Nat} {g : Nat → Nat → Int} {nr : Nat} {lt : Nat → Int} {c s i j : Int} (h : kTr N g nr lt c) (hs : m_isN s) (hi : 0 ≤ i) (hij : i ≤ j) (hj : j < c) : ((m_tr N lt s i j : Nat) : Int) = ((m_TT g nr lt s i j : Nat) : Int) := by
  rw [m_tr_s (by omega) hij, m_part_N hs, h s i j hs hi hij hj]
