/-! PURE: tables that agree on the text; the run of a layout. Mine. -/
abbrev m_ag (C C' : Int → Int → Int → Nat) (i j : Int) : Prop := ∀ s i' j' : Int, m_isN s → i ≤ i' → i' ≤ j' → j' ≤ j → C s i' j' = C' s i' j'
theorem m_fsn_congr {P Q : Int → Prop} : ∀ {n : Nat} {a : Int}, (∀ k, a ≤ k → k < a + n → (P k ↔ Q k)) → m_fsn P a n = m_fsn Q a n
  | 0, _, _ => rfl
  | n + 1, a, h => by
    unfold m_fsn
    by_cases e : P a
    · rw [if_pos e, if_pos ((h a (by omega) (by omega)).mp e)]
    · rw [if_neg e, if_neg (fun q => e ((h a (by omega) (by omega)).mpr q))]
      exact m_fsn_congr fun k h1 h2 => h k (by omega) (by omega)
theorem m_fs_congr {P Q : Int → Prop} {a b : Int} (h : ∀ k, a ≤ k → k < b → (P k ↔ Q k)) : m_fs P a b = m_fs Q a b := m_fsn_congr fun k h1 h2 => h k h1 (by omega)
theorem m_fsn_ge {P : Int → Prop} : ∀ {n : Nat} {a : Int}, a ≤ m_fsn P a n
  | 0, a => Int.le_refl a
  | n + 1, a => by
    unfold m_fsn
    split
    · exact Int.le_refl a
    · exact Int.le_trans (by omega) (m_fsn_ge (n := n) (a := a + 1))
theorem m_part_ag {C C' : Int → Int → Int → Nat} {lt : Nat → Int} {s i j i' j' : Int} (h : m_ag C C' i j) (hs : m_isS s) (h1 : i ≤ i') (h2 : i' ≤ j') (h3 : j' ≤ j) : m_part C lt s i' j' = m_part C' lt s i' j' :=
  m_part_congr (fun _ => rfl) (fun hn => h s i' j' (by rcases hs with hs | hs; exact absurd hs hn; exact hs) h1 h2 h3)
theorem m_two_ag {C C' : Int → Int → Int → Nat} {lt : Nat → Int} {f2 f3 i j i' j' : Int} (h : m_ag C C' i j) (h2 : m_isS f2) (h3 : m_isS f3) (h4 : i ≤ i') (h5 : j' ≤ j) : m_two C lt f2 f3 i' j' = m_two C' lt f2 f3 i' j' :=
  m_S_congr fun k a b => by rw [m_part_ag h h2 h4 a (by omega), m_part_ag h h3 (i' := k + 1) (by omega) (by omega) h5]
abbrev m_w3 (f1 f2 f3 : Int) : Prop := m_isS f1 ∧ ((f2 = -1 ∧ f3 = -1) ∨ (m_isS f2 ∧ (f3 = -1 ∨ m_isS f3)))
theorem m_wf_w3 {g : Nat → Nat → Int} {r : Nat} (h : m_wf g r) : m_w3 (g 2 r) (g 3 r) (g 4 r) := by
  obtain ⟨_, h2, h3⟩ := h
  refine ⟨h2, ?_⟩
  rcases h3 with ⟨a, b, _⟩ | ⟨a, b⟩
  · exact Or.inl ⟨a, b⟩
  · exact Or.inr ⟨a, b⟩
theorem m_wy_ag {C C' : Int → Int → Int → Nat} {lt : Nat → Int} {f1 f2 f3 i j : Int} (h : m_ag C C' i j) (hw : m_w3 f1 f2 f3) (hij : i ≤ j) : m_wy C lt f1 f2 f3 i j = m_wy C' lt f1 f2 f3 i j := by
  obtain ⟨h1, hw⟩ := hw
  unfold m_wy
  by_cases e2 : f2 = -1
  · rw [if_pos e2, if_pos e2]; exact m_part_ag h h1 (by omega) hij (by omega)
  · have h2 : m_isS f2 := by rcases hw with q | q; exact absurd q.1 e2; exact q.1
    rw [if_neg e2, if_neg e2]
    by_cases e3 : f3 = -1
    · rw [if_pos e3, if_pos e3]; exact m_two_ag h h1 h2 (by omega) (by omega)
    · have h3 : m_isS f3 := by rcases hw with q | q; exact absurd q.1 e2; exact q.2.resolve_left e3
      rw [if_neg e3, if_neg e3]
      exact m_S_congr fun k a b => by rw [m_part_ag h h1 (by omega) a (by omega), m_two_ag h h2 h3 (i' := k + 1) (by omega) (Int.le_refl j)]
theorem m_sk_ge {C : Int → Int → Int → Nat} {lt : Nat → Int} {f1 f2 f3 i j : Int} (hij : i ≤ j) : i ≤ m_sk C lt f1 f2 f3 i j := by
  unfold m_sk
  split
  · exact hij
  · split
    · exact m_fsn_ge
    · exact m_fsn_ge
theorem m_sk_ag {C C' : Int → Int → Int → Nat} {lt : Nat → Int} {f1 f2 f3 i j : Int} (h : m_ag C C' i j) (hw : m_w3 f1 f2 f3) (hij : i ≤ j) : m_sk C lt f1 f2 f3 i j = m_sk C' lt f1 f2 f3 i j := by
  obtain ⟨h1, hw⟩ := hw
  unfold m_sk
  by_cases e2 : f2 = -1
  · rw [if_pos e2, if_pos e2]
  · have h2 : m_isS f2 := by rcases hw with q | q; exact absurd q.1 e2; exact q.1
    rw [if_neg e2, if_neg e2]
    by_cases e3 : f3 = -1
    · rw [if_pos e3, if_pos e3]
      exact m_fs_congr fun k a b => by rw [m_part_ag h h1 (by omega) a (by omega), m_part_ag h h2 (i' := k + 1) (by omega) (by omega) (Int.le_refl j)]
    · have h3 : m_isS f3 := by rcases hw with q | q; exact absurd q.1 e2; exact q.2.resolve_left e3
      rw [if_neg e3, if_neg e3]
      exact m_fs_congr fun k a b => by rw [m_part_ag h h1 (by omega) a (by omega), m_two_ag h h2 h3 (i' := k + 1) (by omega) (Int.le_refl j)]
theorem m_sl_ag {C C' : Int → Int → Int → Nat} {lt : Nat → Int} {f1 f2 f3 i j : Int} (h : m_ag C C' i j) (hw : m_w3 f1 f2 f3) (hij : i ≤ j) : m_sl C lt f1 f2 f3 i j = m_sl C' lt f1 f2 f3 i j := by
  have hs := m_sk_ag (lt := lt) h hw hij
  have hg := m_sk_ge (C := C') (lt := lt) (f1 := f1) (f2 := f2) (f3 := f3) hij
  obtain ⟨h1, hw⟩ := hw
  unfold m_sl
  by_cases e2 : f2 = -1
  · rw [if_pos e2, if_pos e2]
  · have h2 : m_isS f2 := by rcases hw with q | q; exact absurd q.1 e2; exact q.1
    rw [if_neg e2, if_neg e2]
    by_cases e3 : f3 = -1
    · rw [if_pos e3, if_pos e3]
    · have h3 : m_isS f3 := by rcases hw with q | q; exact absurd q.1 e2; exact q.2.resolve_left e3
      rw [if_neg e3, if_neg e3, hs]
      exact m_fs_congr fun k a b => by rw [m_part_ag h h2 (i' := _ + 1) (by omega) a (by omega), m_part_ag h h3 (i' := k + 1) (by omega) (by omega) (Int.le_refl j)]
theorem m_ch_ag {g : Nat → Nat → Int} {C C' : Int → Int → Int → Nat} {lt : Nat → Int} {nm i j : Int} {nr : Nat} (hwf : ∀ r, r < nr → m_wf g r) (h : m_ag C C' i j) (hij : i ≤ j) : m_ch g C lt nm i j nr = m_ch g C' lt nm i j nr :=
  m_ch_congr fun r hr => by unfold m_okr; rw [m_wy_ag h (m_wf_w3 (hwf r hr)) hij]
/-- the kept numbers of a text of c letters are true -/
abbrev kTr (N : Nat → Nat) (g : Nat → Nat → Int) (nr : Nat) (lt : Nat → Int) (c : Int) : Prop := ∀ s i j : Int, m_isN s → 0 ≤ i → i ≤ j → j < c → m_Cn N s i j = m_TT g nr lt s i j
theorem kTr.ag {N : Nat → Nat} {g : Nat → Nat → Int} {nr : Nat} {lt : Nat → Int} {c i j : Int} (h : kTr N g nr lt c) (hi : 0 ≤ i) (hj : j < c) : m_ag (m_Cn N) (m_TT g nr lt) i j := fun s i' j' hs a b d => h s i' j' hs (by omega) b (by omega)
/-- the rule at the top of a chosen tree, and its parts -/
theorem m_nod {g : Nat → Nat → Int} {nr : Nat} {lt : Nat → Int} (hwf : kWf g nr) {s i j : Int} (hn : m_isN s) (hij : i ≤ j) (hw : j - i < 10) (hp : 0 < m_TT g nr lt s i j) :
    ∃ (r : Nat) (k l : Int), r < nr ∧ m_ch g (m_TT g nr lt) lt s i j nr = (r : Int) ∧ m_sk (m_TT g nr lt) lt (g 2 r) (g 3 r) (g 4 r) i j = k ∧ m_sl (m_TT g nr lt) lt (g 2 r) (g 3 r) (g 4 r) i j = l ∧ g 8 r = 0 ∧ g 1 r = s ∧ m_wf g r ∧ 0 < m_wy (m_TT g nr lt) lt (g 2 r) (g 3 r) (g 4 r) i j ∧
    ((g 3 r = -1 ∧ g 4 r = -1 ∧ k = j ∧ l = j ∧ m_isS (g 2 r) ∧ (m_isL (g 2 r) ∨ s < g 2 r) ∧ 0 < m_part (m_TT g nr lt) lt (g 2 r) i j) ∨
     (m_isS (g 3 r) ∧ g 4 r = -1 ∧ i ≤ k ∧ k < j ∧ l = j ∧ m_isS (g 2 r) ∧ 0 < m_part (m_TT g nr lt) lt (g 2 r) i k ∧ 0 < m_part (m_TT g nr lt) lt (g 3 r) (k + 1) j) ∨
     (m_isS (g 3 r) ∧ m_isS (g 4 r) ∧ i ≤ k ∧ k + 1 ≤ l ∧ l < j ∧ m_isS (g 2 r) ∧ 0 < m_part (m_TT g nr lt) lt (g 2 r) i k ∧ 0 < m_part (m_TT g nr lt) lt (g 3 r) (k + 1) l ∧ 0 < m_part (m_TT g nr lt) lt (g 4 r) (l + 1) j)) := by
  rw [m_TT_eq (fun r hr => (hwf r hr).1) hn hij hw] at hp
  obtain ⟨r0, a, b⟩ := m_sn_pos.mp (m_cap_pos.mp hp)
  have hok : m_okr g (m_TT g nr lt) lt s i j r0 := by
    unfold m_rs at b
    by_cases e : g 8 r0 = 0 ∧ g 1 r0 = s
    · rw [if_pos e] at b; exact ⟨e.1, e.2, b⟩
    · rw [if_neg e] at b; omega
  rcases m_ch_rg (g := g) (C := m_TT g nr lt) (lt := lt) (nm := s) (i := i) (j := j) nr with q | ⟨q1, q2, q3⟩
  · exact absurd hok (m_ch_no nr q r0 a)
  · obtain ⟨r, hr⟩ : ∃ r : Nat, m_ch g (m_TT g nr lt) lt s i j nr = (r : Int) := ⟨_, (Int.toNat_of_nonneg q1).symm⟩
    rw [hr] at q2 q3
    rw [show ((r : Int)).toNat = r by omega] at q3
    have hwr := (hwf r (by omega)).1
    refine ⟨r, _, _, by omega, hr, rfl, rfl, q3.1, q3.2.1, hwr, q3.2.2, ?_⟩
    obtain ⟨w1, w2, w3⟩ := hwr
    rcases m_split hij q3.2.2 with ⟨a1, a2, a3, a4⟩ | ⟨a1, a2, a3, a4, a5, a6, a7⟩ | ⟨a1, a2, a3, a4, a5, a6, a7, a8⟩
    · refine Or.inl ⟨a1, ?_, a2, a3, w2, ?_, a4⟩
      · rcases w3 with w3 | w3
        · exact w3.2.1
        · exact absurd a1 (m_sym1 w3.1)
      · rcases w3 with w3 | w3
        · rw [← q3.2.1]; exact w3.2.2
        · exact absurd a1 (m_sym1 w3.1)
    · refine Or.inr (Or.inl ⟨?_, a2, a3, a4, a5, w2, a6, a7⟩)
      rcases w3 with w3 | w3
      · exact absurd w3.1 a1
      · exact w3.1
    · refine Or.inr (Or.inr ⟨?_, ?_, a3, a4, a5, w2, a6, a7, a8⟩)
      · rcases w3 with w3 | w3
        · exact absurd w3.1 a1
        · exact w3.1
      · rcases w3 with w3 | w3
        · exact absurd w3.1 a1
        · exact w3.2.resolve_left a2
/-- how many rules a symbol's tree has at most -/
def m_M (s i j : Int) : Int := if m_isL s then 0 else 10 * (j - i) + 15 - s
theorem m_M_L {s i j : Int} (h : m_isL s) : m_M s i j = 0 := if_pos h
theorem m_M_N {s i j : Int} (h : m_isN s) : m_M s i j = 10 * (j - i) + 15 - s := if_neg (by omega)
theorem m_M_rg {s i j : Int} (h : m_isS s) (hij : i ≤ j) : 0 ≤ m_M s i j ∧ m_M s i j ≤ 10 * (j - i) + 5 := by
  rcases h with h | h
  · rw [m_M_L h]; omega
  · rw [m_M_N h]; omega
theorem m_M_1 {s f i j : Int} (hn : m_isN s) (hf : m_isS f) (hij : i ≤ j) (h : m_isL f ∨ s < f) : m_M f i j + 1 ≤ m_M s i j := by
  rw [m_M_N hn]
  rcases hf with hf | hf
  · rw [m_M_L hf]; omega
  · rw [m_M_N hf]; omega
theorem m_part_L {C : Int → Int → Int → Nat} {lt : Nat → Int} {s i j : Int} (hs : m_isL s) (h : 0 < m_part C lt s i j) : i = j ∧ lt i.toNat = s := by
  unfold m_part at h
  rw [if_pos hs] at h
  by_cases e : i = j ∧ lt i.toNat = s
  · exact e
  · rw [if_neg e] at h; omega
theorem m_part_N {C : Int → Int → Int → Nat} {lt : Nat → Int} {s i j : Int} (hs : m_isN s) : m_part C lt s i j = C s i j := if_neg (by omega)
def m_gs (g : Nat → Nat → Int) (r : Nat) (k l : Int) (O : kO) : kO := if g 3 r = -1 then O else if g 4 r = -1 then m_gp O (k + 1) (g 7 r) else m_gp (m_gp O (l + 1) (g 7 r)) (k + 1) (g 7 r)
def m_nd (g : Nat → Nat → Int) (F : Int → Int → Int → Int → kO → kO) (r : Nat) (i k l j L : Int) (O : kO) : kO :=
  if g 3 r = -1 then F (g 2 r) i k (L + 1) (m_gs g r k l (m_lr g r i j O))
  else if g 4 r = -1 then F (g 3 r) (k + 1) l (L + 1) (F (g 2 r) i k (L + 1) (m_gs g r k l (m_lr g r i j O)))
  else F (g 4 r) (l + 1) j (L + 1) (F (g 3 r) (k + 1) l (L + 1) (F (g 2 r) i k (L + 1) (m_gs g r k l (m_lr g r i j O))))
noncomputable def m_run (g : Nat → Nat → Int) (nr : Nat) (lt : Nat → Int) : Nat → Int → Int → Int → Int → kO → kO
  | 0, _, _, _, _, O => O
  | d + 1, s, i, j, L, O => if m_isL s then m_le O L else
      m_nd g (m_run g nr lt d) (m_ch g (m_TT g nr lt) lt s i j nr).toNat i
        (m_sk (m_TT g nr lt) lt (g 2 (m_ch g (m_TT g nr lt) lt s i j nr).toNat) (g 3 (m_ch g (m_TT g nr lt) lt s i j nr).toNat) (g 4 (m_ch g (m_TT g nr lt) lt s i j nr).toNat) i j)
        (m_sl (m_TT g nr lt) lt (g 2 (m_ch g (m_TT g nr lt) lt s i j nr).toNat) (g 3 (m_ch g (m_TT g nr lt) lt s i j nr).toNat) (g 4 (m_ch g (m_TT g nr lt) lt s i j nr).toNat) i j) j L O
theorem m_run_L {g : Nat → Nat → Int} {nr : Nat} {lt : Nat → Int} {d : Nat} {s i j L : Int} {O : kO} (hs : m_isL s) : m_run g nr lt (d + 1) s i j L O = m_le O L := if_pos hs
theorem m_run_N {g : Nat → Nat → Int} {nr : Nat} {lt : Nat → Int} {d r : Nat} {s i j k l L : Int} {O : kO} (hs : m_isN s) (hr : m_ch g (m_TT g nr lt) lt s i j nr = (r : Int)) (hk : m_sk (m_TT g nr lt) lt (g 2 r) (g 3 r) (g 4 r) i j = k) (hl : m_sl (m_TT g nr lt) lt (g 2 r) (g 3 r) (g 4 r) i j = l) : m_run g nr lt (d + 1) s i j L O = m_nd g (m_run g nr lt d) r i k l j L O := by
  conv => lhs; unfold m_run
  rw [if_neg (by omega), hr, show ((r : Int)).toNat = r by omega, hk, hl]
theorem m_gs_cnt {g : Nat → Nat → Int} {r : Nat} {k l : Int} {O : kO} : (m_gs g r k l O).1 = O.1 ∧ (m_gs g r k l O).2.2.2.2.2 = O.2.2.2.2.2 := by
  unfold m_gs m_gp
  split
  · exact ⟨rfl, rfl⟩
  · split <;> exact ⟨rfl, rfl⟩
/-- rules and letters that a run adds -/
theorem m_run_cnt {g : Nat → Nat → Int} {nr : Nat} {lt : Nat → Int} (hwf : kWf g nr) : ∀ (d : Nat) (s i j L : Int) (O : kO), m_isS s → i ≤ j → j - i < 10 → 0 < m_part (m_TT g nr lt) lt s i j → m_M s i j < (d : Int) →
    O.1 ≤ (m_run g nr lt d s i j L O).1 ∧ (m_run g nr lt d s i j L O).1 ≤ O.1 + m_M s i j ∧ (m_run g nr lt d s i j L O).2.2.2.2.2 = O.2.2.2.2.2 + (j - i + 1)
  | 0, s, i, j, L, O, hs, hij, _, _, hd => by have := m_M_rg hs hij; omega
  | d + 1, s, i, j, L, O, hs, hij, hw, hp, hd => by
    rcases hs with hs | hs
    · obtain ⟨e, _⟩ := m_part_L hs hp
      rw [m_run_L hs, m_M_L hs]
      unfold m_le
      refine ⟨Int.le_refl _, Int.le_of_eq (Int.add_zero _).symm, ?_⟩
      show O.2.2.2.2.2 + 1 = _
      omega
    · rw [m_part_N hs] at hp
      obtain ⟨r, k, l, h1, h2, h3, h4, h5, h6, h7, h8, h9⟩ := m_nod hwf hs hij hw hp
      rw [m_run_N hs h2 h3 h4]
      have hM := m_M_N (s := s) (i := i) (j := j) hs
      obtain ⟨c1, c2⟩ := m_gs_cnt (g := g) (r := r) (k := k) (l := l) (O := m_lr g r i j O)
      have c1' : (m_gs g r k l (m_lr g r i j O)).1 = O.1 + 1 := c1
      have c2' : (m_gs g r k l (m_lr g r i j O)).2.2.2.2.2 = O.2.2.2.2.2 := c2
      unfold m_nd
      generalize m_gs g r k l (m_lr g r i j O) = O1 at *
      rcases h9 with ⟨a1, a2, a3, a4, a5, a6, a7⟩ | ⟨a1, a2, a3, a4, a5, a6, a7, a8⟩ | ⟨a1, a2, a3, a4, a5, a6, a7, a8, a9⟩
      · rw [if_pos a1]
        have hm := m_M_1 hs a5 hij a6
        subst a3
        have b1 := m_run_cnt hwf d (g 2 r) i k (L + 1) O1 a5 hij hw a7 (by omega)
        omega
      · rw [if_neg (m_sym1 a1), if_pos a2]
        have r1 := m_M_rg a6 a3
        have r2 := m_M_rg (i := k + 1) (j := l) a1 (by omega)
        subst a5
        have b1 := m_run_cnt hwf d (g 2 r) i k (L + 1) O1 a6 a3 (by omega) a7 (by omega)
        have b2 := m_run_cnt hwf d (g 3 r) (k + 1) l (L + 1) (m_run g nr lt d (g 2 r) i k (L + 1) O1) a1 (by omega) (by omega) a8 (by omega)
        omega
      · rw [if_neg (m_sym1 a1), if_neg (m_sym1 a2)]
        have r1 := m_M_rg a6 a3
        have r2 := m_M_rg (i := k + 1) (j := l) a1 (by omega)
        have r3 := m_M_rg (i := l + 1) (j := j) a2 (by omega)
        have b1 := m_run_cnt hwf d (g 2 r) i k (L + 1) O1 a6 a3 (by omega) a7 (by omega)
        have b2 := m_run_cnt hwf d (g 3 r) (k + 1) l (L + 1) (m_run g nr lt d (g 2 r) i k (L + 1) O1) a1 (by omega) (by omega) a8 (by omega)
        have b3 := m_run_cnt hwf d (g 4 r) (l + 1) j (L + 1) (m_run g nr lt d (g 3 r) (k + 1) l (L + 1) (m_run g nr lt d (g 2 r) i k (L + 1) O1)) a2 (by omega) (by omega) a9 (by omega)
        omega
/-- what each step keeps, a run keeps -/
theorem m_run_ind {g : Nat → Nat → Int} {nr : Nat} {lt : Nat → Int} (hwf : kWf g nr) {P : kO → Prop} (B : Int) (hle : ∀ (O : kO) (L : Int), P O → 0 ≤ L → L ≤ B → P (m_le O L)) (hlr : ∀ (O : kO) (r : Nat) (i j : Int), r < nr → P O → P (m_lr g r i j O)) (hgp : ∀ (O : kO) (r : Nat) (p : Int), r < nr → P O → P (m_gp O p (g 7 r))) :
    ∀ (d : Nat) (s i j L : Int) (O : kO), m_isS s → i ≤ j → j - i < 10 → 0 < m_part (m_TT g nr lt) lt s i j → m_M s i j < (d : Int) → 0 ≤ L → L + m_M s i j ≤ B → P O → P (m_run g nr lt d s i j L O)
  | 0, s, i, j, L, O, hs, hij, _, _, hd, _, _, _ => by have := m_M_rg hs hij; omega
  | d + 1, s, i, j, L, O, hs, hij, hw, hp, hd, hL, hB, hO => by
    rcases hs with hs | hs
    · rw [m_run_L hs]
      rw [m_M_L hs] at hB
      exact hle O L hO hL (by omega)
    · rw [m_part_N hs] at hp
      obtain ⟨r, k, l, h1, h2, h3, h4, h5, h6, h7, h8, h9⟩ := m_nod hwf hs hij hw hp
      rw [m_run_N hs h2 h3 h4]
      have hM := m_M_N (s := s) (i := i) (j := j) hs
      have hO1 : P (m_gs g r k l (m_lr g r i j O)) := by
        unfold m_gs
        split
        · exact hlr O r i j h1 hO
        · split
          · exact hgp _ r _ h1 (hlr O r i j h1 hO)
          · exact hgp _ r _ h1 (hgp _ r _ h1 (hlr O r i j h1 hO))
      unfold m_nd
      generalize m_gs g r k l (m_lr g r i j O) = O1 at *
      rcases h9 with ⟨a1, a2, a3, a4, a5, a6, a7⟩ | ⟨a1, a2, a3, a4, a5, a6, a7, a8⟩ | ⟨a1, a2, a3, a4, a5, a6, a7, a8, a9⟩
      · rw [if_pos a1]
        have hm := m_M_1 hs a5 hij a6
        subst a3
        exact m_run_ind hwf B hle hlr hgp d (g 2 r) i k (L + 1) O1 a5 hij hw a7 (by omega) (by omega) (by omega) hO1
      · rw [if_neg (m_sym1 a1), if_pos a2]
        have r1 := m_M_rg a6 a3
        have r2 := m_M_rg (i := k + 1) (j := l) a1 (by omega)
        subst a5
        have b1 := m_run_ind hwf B hle hlr hgp d (g 2 r) i k (L + 1) O1 a6 a3 (by omega) a7 (by omega) (by omega) (by omega) hO1
        exact m_run_ind hwf B hle hlr hgp d (g 3 r) (k + 1) l (L + 1) _ a1 (by omega) (by omega) a8 (by omega) (by omega) (by omega) b1
      · rw [if_neg (m_sym1 a1), if_neg (m_sym1 a2)]
        have r1 := m_M_rg a6 a3
        have r2 := m_M_rg (i := k + 1) (j := l) a1 (by omega)
        have r3 := m_M_rg (i := l + 1) (j := j) a2 (by omega)
        have b1 := m_run_ind hwf B hle hlr hgp d (g 2 r) i k (L + 1) O1 a6 a3 (by omega) a7 (by omega) (by omega) (by omega) hO1
        have b2 := m_run_ind hwf B hle hlr hgp d (g 3 r) (k + 1) l (L + 1) _ a1 (by omega) (by omega) a8 (by omega) (by omega) (by omega) b1
        exact m_run_ind hwf B hle hlr hgp d (g 4 r) (l + 1) j (L + 1) _ a2 (by omega) (by omega) a9 (by omega) (by omega) (by omega) b2
/-- ranges of what a layout holds -/
def kOi (O : kO) : Prop := (∀ p, 0 ≤ O.2.2.1 p ∧ O.2.2.1 p ≤ 9) ∧ (∀ p, 0 ≤ O.2.2.2.1 p ∧ O.2.2.2.1 p ≤ 3) ∧ (0 ≤ O.2.2.2.2.1 ∧ O.2.2.2.2.1 ≤ 95) ∧ ∀ p, 0 ≤ O.2.1 p ∧ O.2.1 p < 12
theorem kOi_le {O : kO} {L : Int} (h : kOi O) (h0 : 0 ≤ L) (h1 : L ≤ 95) : kOi (m_le O L) := by
  refine ⟨h.1, h.2.1, ?_, h.2.2.2⟩
  show 0 ≤ (if O.2.2.2.2.1 < L then L else O.2.2.2.2.1) ∧ (if O.2.2.2.2.1 < L then L else O.2.2.2.2.1) ≤ 95
  have := h.2.2.1
  split <;> omega
theorem kOi_lr {g : Nat → Nat → Int} {nr r : Nat} {i j : Int} {O : kO} (hwf : kWf g nr) (hn : nr ≤ 12) (hr : r < nr) (h : kOi O) : kOi (m_lr g r i j O) := by
  have hc := (hwf r hr).2.2.1
  refine ⟨?_, h.2.1, h.2.2.1, ?_⟩
  · intro p
    show 0 ≤ (if g 6 r = 0 then O.2.2.1 else m_col O.2.2.1 i j (g 6 r)) p ∧ (if g 6 r = 0 then O.2.2.1 else m_col O.2.2.1 i j (g 6 r)) p ≤ 9
    split
    · exact h.1 p
    · unfold m_col
      split
      · exact hc
      · exact h.1 p
  · intro p
    show 0 ≤ kup O.2.1 O.1.toNat (r : Int) p ∧ kup O.2.1 O.1.toNat (r : Int) p < 12
    unfold kup
    split
    · omega
    · exact h.2.2.2 p
theorem kOi_gp {g : Nat → Nat → Int} {nr r : Nat} {p : Int} {O : kO} (hwf : kWf g nr) (hr : r < nr) (h : kOi O) : kOi (m_gp O p (g 7 r)) := by
  have hc := (hwf r hr).2.2.2.1
  refine ⟨h.1, ?_, h.2.2.1, h.2.2.2⟩
  intro x
  show 0 ≤ kup O.2.2.2.1 p.toNat (g 7 r) x ∧ kup O.2.2.2.1 p.toNat (g 7 r) x ≤ 3
  unfold kup
  split
  · exact hc
  · exact h.2.1 x
theorem kOi_run {g : Nat → Nat → Int} {nr : Nat} {lt : Nat → Int} (hwf : kWf g nr) (hnr : nr ≤ 12) (d : Nat) (s i j L : Int) (O : kO) (hs : m_isS s) (hij : i ≤ j) (hw : j - i < 10) (hp : 0 < m_part (m_TT g nr lt) lt s i j) (hd : m_M s i j < (d : Int)) (hL : 0 ≤ L) (hB : L + m_M s i j ≤ 95) (hO : kOi O) : kOi (m_run g nr lt d s i j L O) :=
  m_run_ind hwf (P := kOi) 95 (fun O L h h0 h1 => kOi_le h h0 h1) (fun O r i j hr h => kOi_lr hwf hnr hr h) (fun O r p hr h => kOi_gp hwf hr h) d s i j L O hs hij hw hp hd hL hB hO
/-- the layout of the chosen tree of a text of c letters -/
noncomputable def m_lay (g : Nat → Nat → Int) (nr : Nat) (lt : Nat → Int) (c : Int) (O : kO) : kO := if 0 < m_TT g nr lt 10 0 (c - 1) then m_run g nr lt 100 10 0 (c - 1) 0 (m_ow O) else m_ow O
/-- the waiting parts of a rule that was laid -/
def m_pp (g : Nat → Nat → Int) (r : Nat) (i k l j L : Int) (sk : Nat → Nat → Int) (t : Int) : Nat → Nat → Int :=
  if g 3 r = -1 then m_psh sk t.toNat (g 2 r) i k L
  else if g 4 r = -1 then m_psh (m_psh sk t.toNat (g 3 r) (k + 1) l L) (t + 1).toNat (g 2 r) i k L
  else m_psh (m_psh (m_psh sk t.toNat (g 4 r) (l + 1) j L) (t + 1).toNat (g 3 r) (k + 1) l L) (t + 1 + 1).toNat (g 2 r) i k L
def m_np (g : Nat → Nat → Int) (r : Nat) : Int := if g 3 r = -1 then 1 else if g 4 r = -1 then 2 else 3
theorem kEx.kset {w : kW} {k a : Nat} {c : kC} {ks : Nat → Prop} (hk : ks k) : kEx w (kset w k a c) ks := fun _ hj => kset_ne (fun e => hj (e ▸ hk))
theorem kOi_gs {g : Nat → Nat → Int} {nr r : Nat} {k l : Int} {O : kO} (hwf : kWf g nr) (hr : r < nr) (h : kOi O) : kOi (m_gs g r k l O) := by
  unfold m_gs
  split
  · exact h
  · split
    · exact kOi_gp hwf hr h
    · exact kOi_gp hwf hr (kOi_gp hwf hr h)
theorem kOi_ow {O : kO} (h : kOi O) : kOi (m_ow O) := by
  refine ⟨fun p => ?_, fun p => ?_, ⟨Int.le_refl 0, by show (0 : Int) ≤ 95; omega⟩, h.2.2.2⟩
  · show 0 ≤ m_fl O.2.2.1 0 ((10 : Nat) : Int) p ∧ m_fl O.2.2.1 0 ((10 : Nat) : Int) p ≤ 9
    unfold m_fl
    split
    · omega
    · exact h.1 p
  · show 0 ≤ m_fl O.2.2.2.1 0 ((10 : Nat) : Int) p ∧ m_fl O.2.2.2.1 0 ((10 : Nat) : Int) p ≤ 3
    unfold m_fl
    split
    · omega
    · exact h.2.1 p
theorem m_lay_sc {g : Nat → Nat → Int} {nr : Nat} {lt : Nat → Int} {c : Int} (hc : 1 ≤ c ∧ c ≤ 10) (hp : 0 < m_TT g nr lt 10 0 (c - 1)) : m_isS 10 ∧ (0 : Int) ≤ c - 1 ∧ c - 1 - 0 < 10 ∧ 0 < m_part (m_TT g nr lt) lt 10 0 (c - 1) ∧ m_M 10 0 (c - 1) < ((100 : Nat) : Int) ∧ m_M 10 0 (c - 1) ≤ 95 ∧ m_M 10 0 (c - 1) = 10 * (c - 1) + 5 := by
  have e := m_M_N (s := 10) (i := 0) (j := c - 1) (by omega)
  refine ⟨by omega, by omega, by omega, by rw [m_part_N (by omega)]; exact hp, by omega, by omega, by omega⟩
theorem kOi_lay {g : Nat → Nat → Int} {nr : Nat} {lt : Nat → Int} {c : Int} {O : kO} (hwf : kWf g nr) (hnr : nr ≤ 12) (hc : 1 ≤ c ∧ c ≤ 10) (h : kOi O) : kOi (m_lay g nr lt c O) := by
  unfold m_lay
  split
  · next hp =>
    obtain ⟨h1, h2, h3, h4, h5, h6, _⟩ := m_lay_sc hc hp
    exact kOi_run hwf hnr 100 10 0 (c - 1) 0 (m_ow O) h1 h2 h3 h4 h5 (Int.le_refl 0) (by omega) (kOi_ow h)
  · exact kOi_ow h
/-- how many rules and letters a layout has -/
theorem m_lay_cnt {g : Nat → Nat → Int} {nr : Nat} {lt : Nat → Int} {c : Int} {O : kO} (hwf : kWf g nr) (hc : 1 ≤ c ∧ c ≤ 10) : 0 ≤ (m_lay g nr lt c O).1 ∧ (m_lay g nr lt c O).1 ≤ 95 ∧ (m_lay g nr lt c O).2.2.2.2.2 = if 0 < m_TT g nr lt 10 0 (c - 1) then c else 0 := by
  unfold m_lay
  split
  · next hp =>
    obtain ⟨h1, h2, h3, h4, h5, h6, _⟩ := m_lay_sc hc hp
    have b := m_run_cnt hwf 100 10 0 (c - 1) 0 (m_ow O) h1 h2 h3 h4 h5
    have e1 : (m_ow O).1 = 0 := rfl
    have e2 : (m_ow O).2.2.2.2.2 = 0 := rfl
    omega
  · exact ⟨Int.le_refl 0, by show (0 : Int) ≤ 95; omega, rfl⟩
theorem kIt.from {sk sk3 : Nat → Nat → Int} {t u : Nat} {s i j L s2 i2 j2 L2 : Int} {n : Nat} (h : ∀ xx kk : Nat, xx < n → kk < 4 → sk3 kk xx = m_psh sk u s2 i2 j2 L2 kk xx) (hn : t < n) (hu : t ≠ u) (h2 : kIt sk t s i j L) : kIt sk3 t s i j L := by
  obtain ⟨p1, p2, p3, p4⟩ := h2
  exact ⟨(h t 0 hn (by decide)).trans ((m_psh_old hu 0 (by decide)).trans p1), (h t 1 hn (by decide)).trans ((m_psh_old hu 1 (by decide)).trans p2), (h t 2 hn (by decide)).trans ((m_psh_old hu 2 (by decide)).trans p3), (h t 3 hn (by decide)).trans ((m_psh_old hu 3 (by decide)).trans p4)⟩
