/-! PURE: capped sums, the true table of numbers of trees. Mine. -/
def m_sm (f : Int → Nat) (a : Int) : Nat → Nat
  | 0 => 0
  | n + 1 => m_sm f a n + f (a + (n : Int))
def m_S (f : Int → Nat) (a b : Int) : Nat := m_sm f a (b - a).toNat
theorem m_S_self {f : Int → Nat} {a b : Int} (h : b ≤ a) : m_S f a b = 0 := by
  unfold m_S
  rw [show (b - a).toNat = 0 by omega]
  rfl
theorem m_S_succ {f : Int → Nat} {a b : Int} (h : a ≤ b) : m_S f a (b + 1) = m_S f a b + f b := by
  unfold m_S
  rw [show (b + 1 - a).toNat = (b - a).toNat + 1 by omega]
  show m_sm f a (b - a).toNat + f (a + ((b - a).toNat : Int)) = _
  rw [show a + ((b - a).toNat : Int) = b by omega]
theorem m_sm_congr {f g : Int → Nat} {a : Int} : ∀ {n : Nat}, (∀ k : Int, a ≤ k → k < a + n → f k = g k) → m_sm f a n = m_sm g a n
  | 0, _ => rfl
  | n + 1, h => by
    show m_sm f a n + _ = m_sm g a n + _
    rw [m_sm_congr (n := n) (fun k h1 h2 => h k h1 (by omega)), h (a + n) (by omega) (by omega)]
theorem m_S_congr {f g : Int → Nat} {a b : Int} (h : ∀ k : Int, a ≤ k → k < b → f k = g k) : m_S f a b = m_S g a b :=
  m_sm_congr (fun k h1 h2 => h k h1 (by omega))
theorem m_sm_pos {f : Int → Nat} {a : Int} : ∀ {n : Nat}, 0 < m_sm f a n ↔ ∃ k : Int, a ≤ k ∧ k < a + n ∧ 0 < f k
  | 0 => ⟨fun h => absurd h (Nat.lt_irrefl 0), fun ⟨k, h1, h2, _⟩ => by omega⟩
  | n + 1 => by
    show 0 < m_sm f a n + f (a + n) ↔ _
    constructor
    · intro h
      by_cases h0 : 0 < f (a + n)
      · exact ⟨a + n, by omega, by omega, h0⟩
      · obtain ⟨k, h1, h2, h3⟩ := (m_sm_pos (f := f) (a := a) (n := n)).mp (by omega)
        exact ⟨k, h1, by omega, h3⟩
    · rintro ⟨k, h1, h2, h3⟩
      by_cases hk : k = a + n
      · subst hk; omega
      · have := (m_sm_pos (f := f) (a := a) (n := n)).mpr ⟨k, h1, by omega, h3⟩
        omega
theorem m_S_pos {f : Int → Nat} {a b : Int} : 0 < m_S f a b ↔ ∃ k : Int, a ≤ k ∧ k < b ∧ 0 < f k := by
  unfold m_S
  rw [m_sm_pos]
  constructor
  · rintro ⟨k, h1, h2, h3⟩; exact ⟨k, h1, by omega, h3⟩
  · rintro ⟨k, h1, h2, h3⟩; exact ⟨k, h1, by omega, h3⟩
theorem m_S_zero {f : Int → Nat} {a b : Int} (h : ∀ k : Int, a ≤ k → k < b → f k = 0) : m_S f a b = 0 := by
  rcases Nat.eq_zero_or_pos (m_S f a b) with h0 | h0
  · exact h0
  · obtain ⟨k, h1, h2, h3⟩ := m_S_pos.mp h0
    rw [h k h1 h2] at h3
    exact absurd h3 (Nat.lt_irrefl 0)
def m_sn (f : Nat → Nat) : Nat → Nat
  | 0 => 0
  | n + 1 => m_sn f n + f n
theorem m_sn_congr {f g : Nat → Nat} : ∀ {n : Nat}, (∀ k, k < n → f k = g k) → m_sn f n = m_sn g n
  | 0, _ => rfl
  | n + 1, h => by
    show m_sn f n + _ = m_sn g n + _
    rw [m_sn_congr (n := n) (fun k h1 => h k (by omega)), h n (by omega)]
theorem m_sn_pos {f : Nat → Nat} : ∀ {n : Nat}, 0 < m_sn f n ↔ ∃ k, k < n ∧ 0 < f k
  | 0 => ⟨fun h => absurd h (Nat.lt_irrefl 0), fun ⟨k, h1, _⟩ => by omega⟩
  | n + 1 => by
    show 0 < m_sn f n + f n ↔ _
    constructor
    · intro h
      by_cases h0 : 0 < f n
      · exact ⟨n, by omega, h0⟩
      · obtain ⟨k, h1, h2⟩ := (m_sn_pos (f := f) (n := n)).mp (by omega)
        exact ⟨k, by omega, h2⟩
    · rintro ⟨k, h1, h3⟩
      by_cases hk : k = n
      · subst hk; omega
      · have := (m_sn_pos (f := f) (n := n)).mpr ⟨k, by omega, h3⟩
        omega
def m_cap (x : Nat) : Nat := if 1000 < x then 1000 else x
theorem m_cap_le (x : Nat) : m_cap x ≤ 1000 := by unfold m_cap; split <;> omega
theorem m_cap_id {x : Nat} (h : x ≤ 1000) : m_cap x = x := by unfold m_cap; split <;> omega
theorem m_cap_pos {x : Nat} : 0 < m_cap x ↔ 0 < x := by unfold m_cap; split <;> omega
theorem m_cap_addl (a b : Nat) : m_cap (m_cap a + b) = m_cap (a + b) := by unfold m_cap; (repeat' split) <;> omega
theorem m_cap_addr (a b : Nat) : m_cap (a + m_cap b) = m_cap (a + b) := by unfold m_cap; (repeat' split) <;> omega
theorem m_cap_mull (a b : Nat) : m_cap (m_cap a * b) = m_cap (a * b) := by
  by_cases h : 1000 < a
  · rcases Nat.eq_zero_or_pos b with hb | hb
    · subst hb; simp
    · have h1 : a ≤ a * b := Nat.le_mul_of_pos_right a hb
      have h2 : 1000 ≤ 1000 * b := Nat.le_mul_of_pos_right 1000 hb
      have e : m_cap a = 1000 := by unfold m_cap; rw [if_pos h]
      rw [e]
      generalize a * b = x at *
      generalize 1000 * b = y at *
      unfold m_cap; (repeat' split) <;> omega
  · rw [m_cap_id (x := a) (by omega)]
theorem m_cap_mulr (a b : Nat) : m_cap (a * m_cap b) = m_cap (a * b) := by rw [Nat.mul_comm, m_cap_mull, Nat.mul_comm]
theorem m_cap_cap (a : Nat) : m_cap (m_cap a) = m_cap a := m_cap_id (m_cap_le a)
abbrev m_isL (s : Int) : Prop := 0 ≤ s ∧ s < 8
abbrev m_isN (s : Int) : Prop := 10 ≤ s ∧ s < 15
abbrev m_isS (s : Int) : Prop := (0 ≤ s ∧ s < 8) ∨ (10 ≤ s ∧ s < 15)
def m_part (C : Int → Int → Int → Nat) (row : Nat → Int) (s i j : Int) : Nat := if m_isL s then (if i = j ∧ row i.toNat = s then 1 else 0) else C s i j
def m_two (C : Int → Int → Int → Nat) (row : Nat → Int) (f2 f3 i j : Int) : Nat := m_S (fun l => m_part C row f2 i l * m_part C row f3 (l + 1) j) i j
def m_wy (C : Int → Int → Int → Nat) (row : Nat → Int) (f1 f2 f3 i j : Int) : Nat :=
  if f2 = -1 then m_part C row f1 i j else if f3 = -1 then m_two C row f1 f2 i j else m_S (fun k => m_part C row f1 i k * m_two C row f2 f3 (k + 1) j) i (j - 1)
def m_rs (C : Int → Int → Int → Nat) (row : Nat → Int) (g : Nat → Nat → Int) (nm i j : Int) (r : Nat) : Nat := if g 8 r = 0 ∧ g 1 r = nm then m_wy C row (g 2 r) (g 3 r) (g 4 r) i j else 0
def m_tt (g : Nat → Nat → Int) (nr : Nat) (row : Nat → Int) : Nat → Int → Int → Int → Nat
  | 0 => fun _ _ _ => 0
  | d + 1 => fun nm i j => m_cap (m_sn (m_rs (m_tt g nr row d) row g nm i j) nr)
theorem m_TT_ex (g : Nat → Nat → Int) (nr : Nat) (row : Nat → Int) : ∃ T : Int → Int → Int → Nat, T = m_tt g nr row 60 := ⟨_, rfl⟩
noncomputable def m_TT (g : Nat → Nat → Int) (nr : Nat) (row : Nat → Int) : Int → Int → Int → Nat := Classical.choose (m_TT_ex g nr row)
theorem m_TT_def (g : Nat → Nat → Int) (nr : Nat) (row : Nat → Int) : m_TT g nr row = m_tt g nr row 60 := Classical.choose_spec (m_TT_ex g nr row)
/-- a rule that the document allows -/
def m_wf (g : Nat → Nat → Int) (r : Nat) : Prop := m_isN (g 1 r) ∧ m_isS (g 2 r) ∧ ((g 3 r = -1 ∧ g 4 r = -1 ∧ (m_isL (g 2 r) ∨ g 1 r < g 2 r)) ∨ (m_isS (g 3 r) ∧ (g 4 r = -1 ∨ m_isS (g 4 r))))
theorem m_part_congr {C C' : Int → Int → Int → Nat} {row row' : Nat → Int} {s i j : Int} (hr : i = j → row i.toNat = row' i.toNat) (hC : ¬ m_isL s → C s i j = C' s i j) : m_part C row s i j = m_part C' row' s i j := by
  unfold m_part
  by_cases h : m_isL s
  · rw [if_pos h, if_pos h]
    by_cases e : i = j
    · rw [hr e]
    · rw [if_neg (fun q => e q.1), if_neg (fun q => e q.1)]
  · rw [if_neg h, if_neg h, hC h]
theorem m_two_congr {C C' : Int → Int → Int → Nat} {row row' : Nat → Int} {f2 f3 i j : Int} (hrow : ∀ p : Int, i ≤ p → p ≤ j → row p.toNat = row' p.toNat) (hC : ∀ s i' j' : Int, i ≤ i' → i' ≤ j' → j' ≤ j → j' - i' < j - i → ¬ m_isL s → C s i' j' = C' s i' j') : m_two C row f2 f3 i j = m_two C' row' f2 f3 i j := by
  unfold m_two
  refine m_S_congr fun k h1 h2 => ?_
  rw [m_part_congr (C := C) (C' := C') (row := row) (row' := row') (s := f2) (i := i) (j := k) (fun _ => hrow i (by omega) (by omega)) (fun h => hC _ _ _ (by omega) (by omega) (by omega) (by omega) h),
    m_part_congr (C := C) (C' := C') (row := row) (row' := row') (s := f3) (i := k + 1) (j := j) (fun _ => hrow (k + 1) (by omega) (by omega)) (fun h => hC _ _ _ (by omega) (by omega) (by omega) (by omega) h)]
theorem m_wy_congr {C C' : Int → Int → Int → Nat} {row row' : Nat → Int} {f1 f2 f3 i j : Int} (hij : i ≤ j) (hrow : ∀ p : Int, i ≤ p → p ≤ j → row p.toNat = row' p.toNat)
    (hC : ∀ s i' j' : Int, i ≤ i' → i' ≤ j' → j' ≤ j → (j' - i' < j - i ∨ (s = f1 ∧ f2 = -1 ∧ i' = i ∧ j' = j)) → ¬ m_isL s → C s i' j' = C' s i' j') : m_wy C row f1 f2 f3 i j = m_wy C' row' f1 f2 f3 i j := by
  unfold m_wy
  by_cases h2 : f2 = -1
  · rw [if_pos h2, if_pos h2]
    exact m_part_congr (fun _ => hrow i (by omega) (by omega)) (fun h => hC _ _ _ (by omega) (by omega) (by omega) (Or.inr ⟨rfl, h2, rfl, rfl⟩) h)
  · rw [if_neg h2, if_neg h2]
    by_cases h3 : f3 = -1
    · rw [if_pos h3, if_pos h3]
      exact m_two_congr hrow (fun s i' j' a b c d e => hC s i' j' a b c (Or.inl d) e)
    · rw [if_neg h3, if_neg h3]
      refine m_S_congr fun k h1 h2 => ?_
      rw [m_part_congr (C := C) (C' := C') (row := row) (row' := row') (s := f1) (i := i) (j := k) (fun _ => hrow i (by omega) (by omega)) (fun h => hC _ _ _ (by omega) (by omega) (by omega) (Or.inl (by omega)) h),
        m_two_congr (C := C) (C' := C') (row := row) (row' := row') (f2 := f2) (f3 := f3) (i := k + 1) (j := j) (fun p a b => hrow p (by omega) (by omega)) (fun s i' j' a b c d e => hC s i' j' (by omega) b c (Or.inl (by omega)) e)]
theorem m_rs_congr {C C' : Int → Int → Int → Nat} {row row' : Nat → Int} {g : Nat → Nat → Int} {nm i j : Int} {r : Nat} (hij : i ≤ j) (hwf : m_wf g r) (hrow : ∀ p : Int, i ≤ p → p ≤ j → row p.toNat = row' p.toNat)
    (hC : ∀ s i' j' : Int, m_isN s → i ≤ i' → i' ≤ j' → j' ≤ j → (j' - i' < j - i ∨ (nm < s ∧ i' = i ∧ j' = j)) → C s i' j' = C' s i' j') : m_rs C row g nm i j r = m_rs C' row' g nm i j r := by
  unfold m_rs
  by_cases h : g 8 r = 0 ∧ g 1 r = nm
  · rw [if_pos h, if_pos h]
    obtain ⟨w1, w2, w3⟩ := hwf
    -- symbols that aren't names never matter
    have key : m_wy C row (g 2 r) (g 3 r) (g 4 r) i j = m_wy C' row' (g 2 r) (g 3 r) (g 4 r) i j := by
      unfold m_wy
      by_cases h2 : g 3 r = -1
      · rw [if_pos h2, if_pos h2]
        refine m_part_congr (fun _ => hrow i (by omega) (by omega)) (fun hn => hC _ _ _ ?_ (by omega) (by omega) (by omega) (Or.inr ⟨?_, rfl, rfl⟩))
        · rcases w2 with w2 | w2
          · exact absurd w2 hn
          · exact w2
        · rcases w3 with ⟨_, _, w3⟩ | ⟨w3, _⟩
          · rcases w3 with w3 | w3
            · exact absurd w3 hn
            · rw [← h.2]; exact w3
          · omega
      · rw [if_neg h2, if_neg h2]
        have s2 : m_isS (g 3 r) := by rcases w3 with ⟨w3, _⟩ | ⟨w3, _⟩; exact absurd w3 h2; exact w3
        have pc : ∀ (s i' j' : Int), m_isS s → i ≤ i' → i' ≤ j' → j' ≤ j → j' - i' < j - i → m_part C row s i' j' = m_part C' row' s i' j' := fun s i' j' hs a b c d =>
          m_part_congr (fun _ => hrow i' (by omega) (by omega)) (fun hn => hC _ _ _ (by rcases hs with hs | hs; exact absurd hs hn; exact hs) a b c (Or.inl d))
        have tw : ∀ (s s' i' : Int), m_isS s → m_isS s' → i ≤ i' → (i' = i ∨ i < i') → m_two C row s s' i' j = m_two C' row' s s' i' j := fun s s' i' hs hs' a _ => by
          unfold m_two
          refine m_S_congr fun l h1 h2 => ?_
          rw [pc s i' l hs a (by omega) (by omega) (by omega), pc s' (l + 1) j hs' (by omega) (by omega) (by omega) (by omega)]
        by_cases h3 : g 4 r = -1
        · rw [if_pos h3, if_pos h3]
          exact tw _ _ _ w2 s2 (by omega) (Or.inl rfl)
        · rw [if_neg h3, if_neg h3]
          have s3 : m_isS (g 4 r) := by rcases w3 with ⟨w3, _⟩ | ⟨_, w3 | w3⟩; exact absurd w3 h2; exact absurd w3 h3; exact w3
          refine m_S_congr fun k a b => ?_
          rw [pc _ i k w2 (by omega) (by omega) (by omega) (by omega), tw _ _ (k + 1) s2 s3 (by omega) (Or.inr (by omega))]
    exact key
  · rw [if_neg h, if_neg h]
def m_ms (nm i j : Int) : Nat := ((j - i) * 5 + (14 - nm) + 1).toNat
theorem m_tt_stable {g : Nat → Nat → Int} {nr : Nat} {row : Nat → Int} (hwf : ∀ r, r < nr → m_wf g r) : ∀ (d d' : Nat) (nm i j : Int), m_isN nm → i ≤ j → m_ms nm i j ≤ d → m_ms nm i j ≤ d' → m_tt g nr row d nm i j = m_tt g nr row d' nm i j
  | 0, _, nm, i, j, hn, hij, h, _ => by unfold m_ms at h; omega
  | _ + 1, 0, nm, i, j, hn, hij, _, h => by unfold m_ms at h; omega
  | d + 1, d' + 1, nm, i, j, hn, hij, h, h' => by
    show m_cap _ = m_cap _
    congr 1
    refine m_sn_congr fun r hr => m_rs_congr hij (hwf r hr) (fun _ _ _ => rfl) fun s i' j' hs a b c e => ?_
    unfold m_ms at h h'
    refine m_tt_stable hwf d d' s i' j' hs b ?_ ?_ <;> (unfold m_ms; rcases e with e | ⟨e, rfl, rfl⟩ <;> omega)
/-- the true table's own equation -/
theorem m_TT_eq {g : Nat → Nat → Int} {nr : Nat} {row : Nat → Int} (hwf : ∀ r, r < nr → m_wf g r) {nm i j : Int} (hn : m_isN nm) (hij : i ≤ j) (hw : j - i < 10) : m_TT g nr row nm i j = m_cap (m_sn (m_rs (m_TT g nr row) row g nm i j) nr) := by
  rw [m_TT_def]
  have e : m_tt g nr row 60 nm i j = m_cap (m_sn (m_rs (m_tt g nr row 59) row g nm i j) nr) := rfl
  rw [e]
  refine congrArg m_cap (m_sn_congr fun r hr => ?_)
  refine m_rs_congr hij (hwf r hr) (fun _ _ _ => rfl) fun s i' j' hs a b c e => ?_
  refine m_tt_stable hwf 59 60 s i' j' hs b ?_ ?_ <;> (unfold m_ms; rcases e with e | ⟨e, rfl, rfl⟩ <;> omega)
theorem m_TT_le {g : Nat → Nat → Int} {nr : Nat} {row : Nat → Int} {nm i j : Int} : m_TT g nr row nm i j ≤ 1000 := by rw [m_TT_def]; exact m_cap_le _
/-- it looks at the span's own letters alone -/
theorem m_tt_row {g : Nat → Nat → Int} {nr : Nat} {row row' : Nat → Int} : ∀ (d : Nat) (nm i j : Int), i ≤ j → (∀ p : Int, i ≤ p → p ≤ j → row p.toNat = row' p.toNat) → m_tt g nr row d nm i j = m_tt g nr row' d nm i j
  | 0, _, _, _, _, _ => rfl
  | d + 1, nm, i, j, hij, h => by
    show m_cap _ = m_cap _
    congr 1
    refine m_sn_congr fun r hr => ?_
    unfold m_rs
    split
    · exact m_wy_congr hij h fun s i' j' a b c _ _ => m_tt_row d s i' j' b fun p q1 q2 => h p (by omega) (by omega)
    · rfl
theorem m_TT_row {g : Nat → Nat → Int} {nr : Nat} {row row' : Nat → Int} {nm i j : Int} (hij : i ≤ j) (h : ∀ p : Int, i ≤ p → p ≤ j → row p.toNat = row' p.toNat) : m_TT g nr row nm i j = m_TT g nr row' nm i j := by rw [m_TT_def, m_TT_def]; exact m_tt_row 60 nm i j hij h
/-- another grammar with the same sums over each span within lo .. hi -/
theorem m_tt_change {g g' : Nat → Nat → Int} {nr nr' : Nat} {row : Nat → Int} {lo hi : Int} (h : ∀ (C : Int → Int → Int → Nat) (nm i j : Int), lo ≤ i → i ≤ j → j ≤ hi → m_sn (m_rs C row g nm i j) nr = m_sn (m_rs C row g' nm i j) nr') : ∀ (d : Nat) (nm i j : Int), lo ≤ i → i ≤ j → j ≤ hi → m_tt g nr row d nm i j = m_tt g' nr' row d nm i j
  | 0, _, _, _, _, _, _ => rfl
  | d + 1, nm, i, j, hl, hij, hh => by
    show m_cap _ = m_cap _
    congr 1
    rw [h _ nm i j hl hij hh]
    refine m_sn_congr fun r hr => ?_
    unfold m_rs
    split
    · exact m_wy_congr hij (fun _ _ _ => rfl) fun s i' j' a b c _ _ => m_tt_change h d s i' j' (by omega) b (by omega)
    · rfl
/-- a rule with a letter that doesn't stand there gives no tree -/
theorem m_part_no {C : Int → Int → Int → Nat} {row : Nat → Int} {s i j : Int} (hs : m_isL s) (h : ∀ p : Int, i ≤ p → p ≤ j → row p.toNat ≠ s) : m_part C row s i j = 0 := by
  unfold m_part
  rw [if_pos hs, if_neg]
  rintro ⟨e, h2⟩
  exact h i (by omega) (by omega) h2
theorem m_wy_no {C : Int → Int → Int → Nat} {row : Nat → Int} {f1 f2 f3 i j s : Int} (hij : i ≤ j) (hs : m_isL s) (hf : s = f1 ∨ s = f2 ∨ s = f3) (hf23 : f2 = -1 → f3 = -1) (h : ∀ p : Int, i ≤ p → p ≤ j → row p.toNat ≠ s) : m_wy C row f1 f2 f3 i j = 0 := by
  unfold m_wy
  by_cases h2 : f2 = -1
  · rw [if_pos h2]
    have h3 := hf23 h2
    have e : s = f1 := by rcases hf with e | e | e; exact e; omega; omega
    subst e
    exact m_part_no hs h
  · rw [if_neg h2]
    by_cases h3 : f3 = -1
    · rw [if_pos h3]
      refine m_S_zero fun k a b => ?_
      rcases hf with e | e | e
      · subst e; rw [m_part_no hs (fun p a b => h p (by omega) (by omega)), Nat.zero_mul]
      · subst e; rw [m_part_no hs (i := k + 1) (fun p a b => h p (by omega) (by omega)), Nat.mul_zero]
      · omega
    · rw [if_neg h3]
      refine m_S_zero fun k a b => ?_
      rcases hf with e | e | e
      · subst e; rw [m_part_no hs (fun p a b => h p (by omega) (by omega)), Nat.zero_mul]
      · subst e
        rw [show m_two C row s f3 (k + 1) j = 0 from m_S_zero fun l c d => by rw [m_part_no hs (fun p a b => h p (by omega) (by omega)), Nat.zero_mul], Nat.mul_zero]
      · subst e
        rw [show m_two C row f2 s (k + 1) j = 0 from m_S_zero fun l c d => by rw [m_part_no hs (i := l + 1) (fun p a b => h p (by omega) (by omega)), Nat.mul_zero], Nat.mul_zero]
theorem m_TT_change {g g' : Nat → Nat → Int} {nr nr' : Nat} {row : Nat → Int} {lo hi : Int} (h : ∀ (C : Int → Int → Int → Nat) (nm i j : Int), lo ≤ i → i ≤ j → j ≤ hi → m_sn (m_rs C row g nm i j) nr = m_sn (m_rs C row g' nm i j) nr') {nm i j : Int} (h1 : lo ≤ i) (h2 : i ≤ j) (h3 : j ≤ hi) : m_TT g nr row nm i j = m_TT g' nr' row nm i j := by rw [m_TT_def, m_TT_def]; exact m_tt_change h 60 nm i j h1 h2 h3
