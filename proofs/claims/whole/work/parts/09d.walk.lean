/-! THE WALK: what the Model writes of a tree against the layout's. Mine. -/
abbrev m_pe (C : Int → Int → Int → Nat) (lt : Nat → Int) (C' : Int → Int → Int → Nat) (lt' : Nat → Int) (i j : Int) : Prop := ∀ s i' j' : Int, i ≤ i' → i' ≤ j' → j' ≤ j → m_part C lt s i' j' = m_part C' lt' s i' j'
section KPE
variable {g : Nat → Nat → Int} {nr : Nat} {C C' : Int → Int → Int → Nat} {lt lt' : Nat → Int} {f1 f2 f3 i j : Int}
theorem m_two_pe {i' j' : Int} (h : m_pe C lt C' lt' i j) (h4 : i ≤ i') (h5 : j' ≤ j) : m_two C lt f2 f3 i' j' = m_two C' lt' f2 f3 i' j' :=
  m_S_congr fun k a b => by rw [h f2 i' k h4 a (by omega), h f3 (k + 1) j' (by omega) (by omega) h5]
theorem m_wy_pe (h : m_pe C lt C' lt' i j) (hij : i ≤ j) : m_wy C lt f1 f2 f3 i j = m_wy C' lt' f1 f2 f3 i j := by
  unfold m_wy
  by_cases e2 : f2 = -1
  · rw [if_pos e2, if_pos e2]; exact h f1 i j (by omega) hij (by omega)
  · rw [if_neg e2, if_neg e2]
    by_cases e3 : f3 = -1
    · rw [if_pos e3, if_pos e3]; exact m_two_pe h (by omega) (by omega)
    · rw [if_neg e3, if_neg e3]
      exact m_S_congr fun k a b => by rw [h f1 i k (by omega) a (by omega), m_two_pe h (i' := k + 1) (by omega) (Int.le_refl j)]
theorem m_sk_pe (h : m_pe C lt C' lt' i j) (hij : i ≤ j) : m_sk C lt f1 f2 f3 i j = m_sk C' lt' f1 f2 f3 i j := by
  unfold m_sk
  by_cases e2 : f2 = -1
  · rw [if_pos e2, if_pos e2]
  · rw [if_neg e2, if_neg e2]
    by_cases e3 : f3 = -1
    · rw [if_pos e3, if_pos e3]
      exact m_fs_congr fun k a b => by rw [h f1 i k (by omega) a (by omega), h f2 (k + 1) j (by omega) (by omega) (Int.le_refl j)]
    · rw [if_neg e3, if_neg e3]
      exact m_fs_congr fun k a b => by rw [h f1 i k (by omega) a (by omega), m_two_pe h (i' := k + 1) (by omega) (Int.le_refl j)]
theorem m_sl_pe (h : m_pe C lt C' lt' i j) (hij : i ≤ j) : m_sl C lt f1 f2 f3 i j = m_sl C' lt' f1 f2 f3 i j := by
  have hs := m_sk_pe (f1 := f1) (f2 := f2) (f3 := f3) h hij
  have hg := m_sk_ge (C := C') (lt := lt') (f1 := f1) (f2 := f2) (f3 := f3) hij
  unfold m_sl
  by_cases e2 : f2 = -1
  · rw [if_pos e2, if_pos e2]
  · rw [if_neg e2, if_neg e2]
    by_cases e3 : f3 = -1
    · rw [if_pos e3, if_pos e3]
    · rw [if_neg e3, if_neg e3, hs]
      exact m_fs_congr fun k a b => by rw [h f2 (m_sk C' lt' f1 f2 f3 i j + 1) k (by omega) a (by omega), h f3 (k + 1) j (by omega) (by omega) (Int.le_refl j)]
theorem m_ch_pe {nm : Int} (h : m_pe C lt C' lt' i j) (hij : i ≤ j) : m_ch g C lt nm i j nr = m_ch g C' lt' nm i j nr :=
  m_ch_congr fun r hr => by unfold m_okr; rw [m_wy_pe h hij]
theorem m_pe_row (hrow : ∀ p : Int, i ≤ p → p ≤ j → lt p.toNat = lt' p.toNat) : m_pe (m_TT g nr lt) lt (m_TT g nr lt') lt' i j := fun s i' j' a b c =>
  m_part_congr (fun _ => hrow i' (by omega) (by omega)) (fun _ => m_TT_row b (fun p q1 q2 => hrow p (by omega) (by omega)))
end KPE
/-- a run looks at the span's own letters alone -/
theorem m_run_row {g : Nat → Nat → Int} {nr : Nat} {lt lt' : Nat → Int} (hwf : kWf g nr) : ∀ (d : Nat) (s i j L : Int) (O : kO), m_isS s → i ≤ j → j - i < 10 → 0 < m_part (m_TT g nr lt) lt s i j → m_M s i j < (d : Int) → (∀ p : Int, i ≤ p → p ≤ j → lt p.toNat = lt' p.toNat) → m_run g nr lt d s i j L O = m_run g nr lt' d s i j L O
  | 0, s, i, j, L, O, hs, hij, _, _, hd, _ => by have := m_M_rg hs hij; omega
  | d + 1, s, i, j, L, O, hs, hij, hw, hp, hd, hrow => by
    rcases hs with hs | hs
    · rw [m_run_L hs, m_run_L hs]
    · have hpe := m_pe_row (g := g) (nr := nr) hrow
      rw [m_part_N hs] at hp
      obtain ⟨r, k, l, h1, h2, h3, h4, h5, h6, h7, h8, h9⟩ := m_nod hwf hs hij hw hp
      rw [m_run_N hs h2 h3 h4, m_run_N hs ((m_ch_pe hpe hij).symm.trans h2) ((m_sk_pe hpe hij).symm.trans h3) ((m_sl_pe hpe hij).symm.trans h4)]
      have hM := m_M_N (s := s) (i := i) (j := j) hs
      unfold m_nd
      generalize m_gs g r k l (m_lr g r i j O) = O1 at *
      rcases h9 with ⟨a1, a2, a3, a4, a5, a6, a7⟩ | ⟨a1, a2, a3, a4, a5, a6, a7, a8⟩ | ⟨a1, a2, a3, a4, a5, a6, a7, a8, a9⟩
      · rw [if_pos a1, if_pos a1]
        have hm := m_M_1 hs a5 hij a6
        subst a3
        exact m_run_row hwf d (g 2 r) i k (L + 1) O1 a5 hij hw a7 (by omega) hrow
      · rw [if_neg (m_sym1 a1), if_pos a2, if_neg (m_sym1 a1), if_pos a2]
        have r1 := m_M_rg a6 a3
        have r2 := m_M_rg (i := k + 1) (j := l) a1 (by omega)
        subst a5
        rw [m_run_row hwf d (g 2 r) i k (L + 1) O1 a6 a3 (by omega) a7 (by omega) (fun p q1 q2 => hrow p (by omega) (by omega))]
        exact m_run_row hwf d (g 3 r) (k + 1) l (L + 1) _ a1 (by omega) (by omega) a8 (by omega) (fun p q1 q2 => hrow p (by omega) (by omega))
      · rw [if_neg (m_sym1 a1), if_neg (m_sym1 a2), if_neg (m_sym1 a1), if_neg (m_sym1 a2)]
        have r1 := m_M_rg a6 a3
        have r2 := m_M_rg (i := k + 1) (j := l) a1 (by omega)
        have r3 := m_M_rg (i := l + 1) (j := j) a2 (by omega)
        rw [m_run_row hwf d (g 2 r) i k (L + 1) O1 a6 a3 (by omega) a7 (by omega) (fun p q1 q2 => hrow p (by omega) (by omega)),
          m_run_row hwf d (g 3 r) (k + 1) l (L + 1) _ a1 (by omega) (by omega) a8 (by omega) (fun p q1 q2 => hrow p (by omega) (by omega))]
        exact m_run_row hwf d (g 4 r) (l + 1) j (L + 1) _ a2 (by omega) (by omega) a9 (by omega) (fun p q1 q2 => hrow p (by omega) (by omega))
theorem m_lay_row {g : Nat → Nat → Int} {nr : Nat} {lt lt' : Nat → Int} {c : Int} {O : kO} (hwf : kWf g nr) (hc : 1 ≤ c ∧ c ≤ 10) (hrow : ∀ p : Nat, (p : Int) < c → lt p = lt' p) : m_lay g nr lt c O = m_lay g nr lt' c O := by
  have e : m_TT g nr lt 10 0 (c - 1) = m_TT g nr lt' 10 0 (c - 1) := m_TT_row (by omega) (fun p q1 q2 => hrow p.toNat (by omega))
  unfold m_lay
  rw [← e]
  split
  · next hp =>
    obtain ⟨h1, h2, h3, h4, h5, h6, _⟩ := m_lay_sc hc hp
    exact m_run_row hwf 100 10 0 (c - 1) 0 (m_ow O) h1 h2 h3 h4 h5 (fun p q1 q2 => hrow p.toNat (by omega))
  · rfl
/-- the parts of a node, as they stand -/
abbrev m_kl (g : Nat → Nat → Int) (r : Nat) (i j k l : Int) : Prop := g 3 r = -1 ∨ (g 3 r ≠ -1 ∧ g 4 r = -1 ∧ i ≤ k ∧ k < j) ∨ (g 3 r ≠ -1 ∧ g 4 r ≠ -1 ∧ i ≤ k ∧ k < l ∧ l < j)
theorem m_gs_fr {g : Nat → Nat → Int} {r : Nat} {i j k l : Int} {O : kO} (hi : 0 ≤ i) (h : m_kl g r i j k l) :
    (∀ p : Nat, ((p : Int) ≤ i ∨ j < (p : Int)) → (m_gs g r k l (m_lr g r i j O)).2.2.2.1 p = O.2.2.2.1 p) ∧
    (∀ p : Nat, ((p : Int) < i ∨ j < (p : Int)) → (m_gs g r k l (m_lr g r i j O)).2.2.1 p = O.2.2.1 p) ∧
    (∀ p : Nat, i ≤ (p : Int) → (p : Int) ≤ j → (m_gs g r k l (m_lr g r i j O)).2.2.1 p = if g 6 r = 0 then O.2.2.1 p else g 6 r) ∧
    (m_gs g r k l (m_lr g r i j O)).2.2.2.2.1 = O.2.2.2.2.1 ∧ (m_gs g r k l (m_lr g r i j O)).2.1 = kup O.2.1 O.1.toNat (r : Int) ∧
    (g 3 r ≠ -1 → (m_gs g r k l (m_lr g r i j O)).2.2.2.1 (k + 1).toNat = g 7 r) ∧ (g 3 r ≠ -1 → g 4 r ≠ -1 → (m_gs g r k l (m_lr g r i j O)).2.2.2.1 (l + 1).toNat = g 7 r) := by
  have hc : (m_gs g r k l (m_lr g r i j O)).2.2.1 = (if g 6 r = 0 then O.2.2.1 else m_col O.2.2.1 i j (g 6 r)) ∧ (m_gs g r k l (m_lr g r i j O)).2.2.2.2.1 = O.2.2.2.2.1 ∧ (m_gs g r k l (m_lr g r i j O)).2.1 = kup O.2.1 O.1.toNat (r : Int) := by
    unfold m_gs
    split
    · exact ⟨rfl, rfl, rfl⟩
    · split <;> exact ⟨rfl, rfl, rfl⟩
  obtain ⟨c1, c2, c3⟩ := hc
  refine ⟨?_, ?_, ?_, c2, c3, ?_, ?_⟩
  · intro p hp
    unfold m_gs
    by_cases e3 : g 3 r = -1
    · rw [if_pos e3]; rfl
    · rw [if_neg e3]
      by_cases e4 : g 4 r = -1
      · rw [if_pos e4]
        exact kup_ne (by omega)
      · rw [if_neg e4]
        exact (kup_ne (by omega)).trans (kup_ne (by omega))
  · intro p hp
    rw [c1]
    split
    · rfl
    · unfold m_col; rw [if_neg (by omega)]
  · intro p q1 q2
    rw [c1]
    by_cases e : g 6 r = 0
    · rw [if_pos e, if_pos e]
    · rw [if_neg e, if_neg e]; unfold m_col; rw [if_pos ⟨q1, q2⟩]
  · intro e3
    unfold m_gs
    rw [if_neg e3]
    by_cases e4 : g 4 r = -1
    · rw [if_pos e4]; exact kup_eq
    · rw [if_neg e4]; exact kup_eq
  · intro e3 e4
    unfold m_gs
    rw [if_neg e3, if_neg e4]
    exact (kup_ne (by omega)).trans kup_eq
/-- what a run leaves alone, and its depth -/
theorem m_run_fr {g : Nat → Nat → Int} {nr : Nat} {lt : Nat → Int} (hwf : kWf g nr) : ∀ (d : Nat) (s i j L : Int) (O : kO), m_isS s → 0 ≤ i → i ≤ j → j - i < 10 → 0 < m_part (m_TT g nr lt) lt s i j → m_M s i j < (d : Int) →
    (∀ p : Nat, ((p : Int) ≤ i ∨ j < (p : Int)) → (m_run g nr lt d s i j L O).2.2.2.1 p = O.2.2.2.1 p) ∧ (∀ p : Nat, ((p : Int) < i ∨ j < (p : Int)) → (m_run g nr lt d s i j L O).2.2.1 p = O.2.2.1 p) ∧
    O.2.2.2.2.1 ≤ (m_run g nr lt d s i j L O).2.2.2.2.1 ∧ L ≤ (m_run g nr lt d s i j L O).2.2.2.2.1 ∧ (m_isN s → L + 1 ≤ (m_run g nr lt d s i j L O).2.2.2.2.1)
  | 0, s, i, j, L, O, hs, _, hij, _, _, hd => by have := m_M_rg hs hij; omega
  | d + 1, s, i, j, L, O, hs, hi, hij, hw, hp, hd => by
    rcases hs with hs | hs
    · rw [m_run_L hs]
      refine ⟨fun _ _ => rfl, fun _ _ => rfl, ?_, ?_, fun q => by omega⟩
      · show O.2.2.2.2.1 ≤ (if O.2.2.2.2.1 < L then L else O.2.2.2.2.1)
        split <;> omega
      · show L ≤ (if O.2.2.2.2.1 < L then L else O.2.2.2.2.1)
        split <;> omega
    · rw [m_part_N hs] at hp
      obtain ⟨r, k, l, h1, h2, h3, h4, h5, h6, h7, h8, h9⟩ := m_nod hwf hs hij hw hp
      rw [m_run_N hs h2 h3 h4]
      have hM := m_M_N (s := s) (i := i) (j := j) hs
      have hkl : m_kl g r i j k l := by
        rcases h9 with ⟨a1, _⟩ | ⟨a1, a2, a3, a4, _⟩ | ⟨a1, a2, a3, a4, a5, _⟩
        · exact Or.inl a1
        · exact Or.inr (Or.inl ⟨m_sym1 a1, a2, a3, a4⟩)
        · exact Or.inr (Or.inr ⟨m_sym1 a1, m_sym1 a2, a3, by omega, a5⟩)
      obtain ⟨f1, f2, _, f4, _⟩ := m_gs_fr (g := g) (r := r) (O := O) hi hkl
      unfold m_nd
      generalize m_gs g r k l (m_lr g r i j O) = O1 at *
      rcases h9 with ⟨a1, a2, a3, a4, a5, a6, a7⟩ | ⟨a1, a2, a3, a4, a5, a6, a7, a8⟩ | ⟨a1, a2, a3, a4, a5, a6, a7, a8, a9⟩
      · rw [if_pos a1]
        have hm := m_M_1 hs a5 hij a6
        subst a3
        obtain ⟨b1, b2, b3, b4, _⟩ := m_run_fr hwf d (g 2 r) i k (L + 1) O1 a5 hi hij hw a7 (by omega)
        exact ⟨fun p q => (b1 p q).trans (f1 p q), fun p q => (b2 p q).trans (f2 p q), by omega, by omega, fun _ => by omega⟩
      · rw [if_neg (m_sym1 a1), if_pos a2]
        have r1 := m_M_rg a6 a3
        have r2 := m_M_rg (i := k + 1) (j := l) a1 (by omega)
        subst a5
        obtain ⟨b1, b2, b3, b4, _⟩ := m_run_fr hwf d (g 2 r) i k (L + 1) O1 a6 hi a3 (by omega) a7 (by omega)
        obtain ⟨c1, c2, c3, c4, _⟩ := m_run_fr hwf d (g 3 r) (k + 1) l (L + 1) (m_run g nr lt d (g 2 r) i k (L + 1) O1) a1 (by omega) (by omega) (by omega) a8 (by omega)
        exact ⟨fun p q => (c1 p (by omega)).trans ((b1 p (by omega)).trans (f1 p q)), fun p q => (c2 p (by omega)).trans ((b2 p (by omega)).trans (f2 p q)), by omega, by omega, fun _ => by omega⟩
      · rw [if_neg (m_sym1 a1), if_neg (m_sym1 a2)]
        have r1 := m_M_rg a6 a3
        have r2 := m_M_rg (i := k + 1) (j := l) a1 (by omega)
        have r3 := m_M_rg (i := l + 1) (j := j) a2 (by omega)
        obtain ⟨b1, b2, b3, b4, _⟩ := m_run_fr hwf d (g 2 r) i k (L + 1) O1 a6 hi a3 (by omega) a7 (by omega)
        obtain ⟨c1, c2, c3, c4, _⟩ := m_run_fr hwf d (g 3 r) (k + 1) l (L + 1) (m_run g nr lt d (g 2 r) i k (L + 1) O1) a1 (by omega) (by omega) (by omega) a8 (by omega)
        obtain ⟨d1, d2, d3, d4, _⟩ := m_run_fr hwf d (g 4 r) (l + 1) j (L + 1) (m_run g nr lt d (g 3 r) (k + 1) l (L + 1) (m_run g nr lt d (g 2 r) i k (L + 1) O1)) a2 (by omega) (by omega) (by omega) a9 (by omega)
        exact ⟨fun p q => (d1 p (by omega)).trans ((c1 p (by omega)).trans ((b1 p (by omega)).trans (f1 p q))), fun p q => (d2 p (by omega)).trans ((c2 p (by omega)).trans ((b2 p (by omega)).trans (f2 p q))), by omega, by omega, fun _ => by omega⟩
/-- what is written of a tree: the letters ahead of place i with their blanks, and b blanks more -/
def kWR (O : kO) (lt : Nat → Int) (i b : Int) (tm : Int) (tr sh sg : Nat → Int) (sm : Int) : Prop :=
  (tm = O.1 ∧ 0 ≤ O.1 ∧ ∀ p : Nat, (p : Int) < O.1 → tr p = O.2.1 p) ∧ sm = i + m_si O.2.2.2.1 i.toNat + b ∧
  (∀ q : Nat, (q : Int) < i → sg ((q : Int) + m_si O.2.2.2.1 (q + 1)).toNat = 97 + lt q) ∧
  (∀ q : Nat, (q : Int) < i → ∀ x : Int, (q : Int) + m_si O.2.2.2.1 q ≤ x → x < (q : Int) + m_si O.2.2.2.1 (q + 1) → sg x.toNat = 32) ∧
  (∀ x : Int, i + m_si O.2.2.2.1 i.toNat ≤ x → x < sm → sg x.toNat = 32) ∧ ∀ q : Nat, (q : Int) < i → sh q = O.2.2.1 q
theorem m_si_mono {f : Nat → Int} (h : ∀ p, 0 ≤ f p ∧ f p ≤ 3) {m n : Nat} (hmn : m ≤ n) : m_si f m ≤ m_si f n := by
  induction n with
  | zero => rw [show m = 0 by omega]; exact Int.le_refl _
  | succ n ih =>
    by_cases e : m = n + 1
    · rw [e]; exact Int.le_refl _
    · have a := ih (by omega)
      have b := h n
      show m_si f m ≤ m_si f n + f n
      omega
section KWR
variable {O O' : kO} {lt : Nat → Int} {i b : Int} {tm tm2 : Int} {tr tr2 sh sg : Nat → Int} {sm : Int}
theorem kWR.upd (h : kWR O lt i b tm tr sh sg sm) (hg : ∀ p : Nat, (p : Int) < i → O'.2.2.2.1 p = O.2.2.2.1 p) (hc : ∀ p : Nat, (p : Int) < i → O'.2.2.1 p = O.2.2.1 p) (ht : tm2 = O'.1 ∧ 0 ≤ O'.1 ∧ ∀ p : Nat, (p : Int) < O'.1 → tr2 p = O'.2.1 p) : kWR O' lt i b tm2 tr2 sh sg sm := by
  obtain ⟨_, b2, b3, b4, b5, b6⟩ := h
  have e : ∀ n : Nat, (n : Int) ≤ i → m_si O'.2.2.2.1 n = m_si O.2.2.2.1 n := fun n hn => m_si_cg (fun p hp => hg p (by omega))
  have ei : m_si O'.2.2.2.1 i.toNat = m_si O.2.2.2.1 i.toNat := by
    rcases Int.lt_or_le i 0 with q | q
    · rw [show i.toNat = 0 by omega]; rfl
    · exact e _ (by omega)
  refine ⟨ht, by rw [ei]; exact b2, fun q hq => by rw [e _ (by omega)]; exact b3 q hq, fun q hq x x1 x2 => ?_, fun x x1 x2 => b5 x (by rw [← ei]; exact x1) x2, fun q hq => (b6 q hq).trans (hc q hq).symm⟩
  rw [e _ (by omega)] at x1 x2
  exact b4 q hq x x1 x2
theorem kWR.rng (h : kWR O lt i b tm tr sh sg sm) (hO : kOi O) (hi : 0 ≤ i ∧ i ≤ 10) (hb : 0 ≤ b ∧ b ≤ 3) : 0 ≤ sm ∧ sm ≤ 43 ∧ i + m_si O.2.2.2.1 i.toNat + b = sm ∧ 0 ≤ m_si O.2.2.2.1 i.toNat := by
  have := m_si_rg hO.2.1 i.toNat
  have := h.2.1
  omega
theorem kWR.letter (h : kWR O lt i b tm tr sh sg sm) (hO : kOi O) (hi : 0 ≤ i) (hb : b = O.2.2.2.1 i.toNat) {a v L : Int} (ha : a = O.2.2.1 i.toNat) (hv : v = 97 + lt i.toNat) : kWR (m_le O L) lt (i + 1) 0 tm tr (kup sh i.toNat a) (kup sg sm.toNat v) (sm + 1) := by
  obtain ⟨b1, b2, b3, b4, b5, b6⟩ := h
  have hg := hO.2.1
  have hsi := m_si_rg hg i.toNat
  have hb3 := hg i.toNat
  have e1 : m_si O.2.2.2.1 (i + 1).toNat = m_si O.2.2.2.1 i.toNat + O.2.2.2.1 i.toNat := by rw [show (i + 1).toNat = i.toNat + 1 by omega]; rfl
  refine ⟨b1, ?_, ?_, ?_, ?_, ?_⟩
  · show sm + 1 = i + 1 + m_si O.2.2.2.1 (i + 1).toNat + 0
    omega
  · intro q hq
    show kup sg sm.toNat v ((q : Int) + m_si O.2.2.2.1 (q + 1)).toNat = 97 + lt q
    by_cases e : (q : Int) < i
    · have mo := m_si_mono hg (m := q + 1) (n := i.toNat) (by omega)
      have z := m_si_rg hg (q + 1)
      rw [kup_ne (by omega)]
      exact b3 q e
    · have eq : q = i.toNat := by omega
      have e2 : m_si O.2.2.2.1 (q + 1) = m_si O.2.2.2.1 i.toNat + O.2.2.2.1 i.toNat := by rw [eq]; rfl
      rw [show ((q : Int) + m_si O.2.2.2.1 (q + 1)).toNat = sm.toNat by omega, kup_eq, hv, eq]
  · intro q hq x x1 x2
    show kup sg sm.toNat v x.toNat = 32
    have x1' : (q : Int) + m_si O.2.2.2.1 q ≤ x := x1
    have x2' : x < (q : Int) + m_si O.2.2.2.1 (q + 1) := x2
    have z := m_si_rg hg q
    by_cases e : (q : Int) < i
    · have mo := m_si_mono hg (m := q + 1) (n := i.toNat) (by omega)
      rw [kup_ne (by omega)]
      exact b4 q e x x1' x2'
    · have eq : q = i.toNat := by omega
      subst eq
      have e2 : m_si O.2.2.2.1 (i.toNat + 1) = m_si O.2.2.2.1 i.toNat + O.2.2.2.1 i.toNat := rfl
      rw [kup_ne (by omega)]
      exact b5 x (by omega) (by omega)
  · intro x x1 x2
    have x1' : i + 1 + m_si O.2.2.2.1 (i + 1).toNat ≤ x := x1
    omega
  · intro q hq
    show kup sh i.toNat a q = O.2.2.1 q
    by_cases e : q = i.toNat
    · rw [e, kup_eq, ha]
    · rw [kup_ne e]; exact b6 q (by omega)
theorem kWR.blank (h : kWR O lt i 0 tm tr sh sg sm) (hO : kOi O) (hi : 0 ≤ i) (hb : 0 ≤ b) : kWR O lt i b tm tr sh (m_col sg sm (sm + b - 1) 32) (sm + b) := by
  obtain ⟨b1, b2, b3, b4, b5, b6⟩ := h
  have hg := hO.2.1
  have hsi := m_si_rg hg i.toNat
  have old : ∀ x : Int, 0 ≤ x → x < sm → m_col sg sm (sm + b - 1) 32 x.toNat = sg x.toNat := fun x h0 h1 => if_neg (by omega)
  refine ⟨b1, by omega, ?_, ?_, ?_, b6⟩
  · intro q hq
    have mo := m_si_mono hg (m := q + 1) (n := i.toNat) (by omega)
    have z := m_si_rg hg (q + 1)
    rw [old _ (by omega) (by omega)]
    exact b3 q hq
  · intro q hq x x1 x2
    have mo := m_si_mono hg (m := q + 1) (n := i.toNat) (by omega)
    have z := m_si_rg hg q
    rw [old _ (by omega) (by omega)]
    exact b4 q hq x x1 x2
  · intro x x1 x2
    exact if_pos (by omega)
end KWR
/-- the signs are the formatted form's -/
theorem kWR.signs {O : kO} {lt : Nat → Int} {c : Int} {tm : Int} {tr sh sg : Nat → Int} {sm : Int} (h : kWR O lt c 0 tm tr sh sg sm) (hc : 0 ≤ c ∧ c ≤ 10) {x : Int} (hx : x < sm) : ∀ (n : Nat) (p : Int), (n : Int) = c - p → 0 ≤ p → p + m_si O.2.2.2.1 p.toNat ≤ x → sg x.toNat = m_sg O.2.2.2.1 lt x (10 - p).toNat p.toNat (p + m_si O.2.2.2.1 p.toNat)
  | 0, p, hn, hp, hy => by
    have e : p = c := by omega
    subst e
    have := h.2.1
    omega
  | n + 1, p, hn, hp, hy => by
    have e1 : m_si O.2.2.2.1 (p.toNat + 1) = m_si O.2.2.2.1 p.toNat + O.2.2.2.1 p.toNat := rfl
    have e2 : (p + 1).toNat = p.toNat + 1 := by omega
    by_cases q1 : x < p + m_si O.2.2.2.1 p.toNat + O.2.2.2.1 p.toNat
    · rw [m_sg_a hp (by omega) q1]
      exact h.2.2.2.1 p.toNat (by omega) x (by omega) (by omega)
    · by_cases q2 : x = p + m_si O.2.2.2.1 p.toNat + O.2.2.2.1 p.toNat
      · rw [m_sg_b hp (by omega) q2]
        have := h.2.2.1 p.toNat (by omega)
        rw [show ((p.toNat : Int) + m_si O.2.2.2.1 (p.toNat + 1)).toNat = x.toNat by omega] at this
        exact this
      · rw [m_sg_c hp (by omega) q1 q2]
        have := kWR.signs h hc hx n (p + 1) (by omega) (by omega) (by rw [e2]; omega)
        rw [this, e2, e1]
        congr 1
        omega
