/-! PURE: copies, fills, the odometer, the chosen rule and its split. Mine. -/
def m_cpl (f h : Nat → Int) (p : Int) : Nat → Int := fun x => if (x : Int) < p then h x else f x
theorem m_cpl_0 {f h : Nat → Int} : m_cpl f h 0 = f := by funext x; unfold m_cpl; rw [if_neg (by omega)]
theorem m_cpl_s {f h : Nat → Int} {p : Int} (hp : 0 ≤ p) : kup (m_cpl f h p) p.toNat (h p.toNat) = m_cpl f h (p + 1) := by
  funext x; unfold kup m_cpl
  by_cases e : x = p.toNat
  · rw [if_pos e, if_pos (by omega), e]
  · rw [if_neg e]
    by_cases e2 : (x : Int) < p
    · rw [if_pos e2, if_pos (by omega)]
    · rw [if_neg e2, if_neg (by omega)]
def m_fl (f : Nat → Int) (v : Int) (p : Int) : Nat → Int := fun x => if (x : Int) < p then v else f x
theorem m_fl_0 {f : Nat → Int} {v : Int} : m_fl f v 0 = f := by funext x; unfold m_fl; rw [if_neg (by omega)]
theorem m_fl_s {f : Nat → Int} {v p : Int} (hp : 0 ≤ p) : kup (m_fl f v p) p.toNat v = m_fl f v (p + 1) := by
  funext x; unfold kup m_fl
  by_cases e : x = p.toNat
  · rw [if_pos e, if_pos (by omega)]
  · rw [if_neg e]
    by_cases e2 : (x : Int) < p
    · rw [if_pos e2, if_pos (by omega)]
    · rw [if_neg e2, if_neg (by omega)]
theorem kLt_cpl {f h : Nat → Int} {p : Int} (hf : kLt f) (hh : kLt h) : kLt (m_cpl f h p) := fun x => by unfold m_cpl; split; exact hh x; exact hf x
theorem kLt_fl {f : Nat → Int} {v p : Int} (hf : kLt f) (hv : 0 ≤ v ∧ v < 8) : kLt (m_fl f v p) := fun x => by unfold m_fl; split; exact hv; exact hf x
theorem kLt_up {f : Nat → Int} {k : Nat} {v : Int} (hf : kLt f) (hv : 0 ≤ v ∧ v < 8) : kLt (kup f k v) := fun x => by unfold kup; split; exact hv; exact hf x
theorem m_nx_t {K p : Int} {f : Nat → Int} (hp : 0 ≤ p) (h : f p.toNat + 1 < K) : m_nx K (p + 1).toNat f = (true, kup f p.toNat (f p.toNat + 1)) := by
  rw [show (p + 1).toNat = p.toNat + 1 by omega]
  unfold m_nx
  rw [if_pos h]
theorem m_nx_f {K p : Int} {f : Nat → Int} (hp : 0 ≤ p) (h : ¬ f p.toNat + 1 < K) : m_nx K (p + 1).toNat f = m_nx K p.toNat (kup f p.toNat 0) := by
  rw [show (p + 1).toNat = p.toNat + 1 by omega]
  conv => lhs; unfold m_nx
  rw [if_neg h]
/-- a symbol that is no letter, or stands among the first c letters -/
def m_st (lt : Nat → Int) (c x : Int) : Prop := m_isL x → ∃ p : Nat, (p : Int) < c ∧ lt p = x
def m_has (lt : Nat → Int) (c : Int) (g : Nat → Nat → Int) (r : Nat) : Prop := m_st lt c (g 2 r) ∧ m_st lt c (g 3 r) ∧ m_st lt c (g 4 r)
def m_cl (g : Nat → Nat → Int) : Nat → Int
  | 0 => 0
  | n + 1 => m_cl g n + (if g 8 n = 0 then 1 else 0)
theorem m_cl_rg {g : Nat → Nat → Int} : ∀ n : Nat, 0 ≤ m_cl g n ∧ m_cl g n ≤ (n : Int)
  | 0 => by unfold m_cl; omega
  | n + 1 => by have h := m_cl_rg (g := g) n; unfold m_cl; split <;> omega
theorem kPl_up {ra : Nat → Nat} {nr b : Nat} : kup (kPl ra nr) nr (some b) = kPl (kup ra nr b) (nr + 1) := by
  funext x; unfold kup kPl
  by_cases e : x = nr
  · subst e; rw [if_pos rfl, if_pos (by omega)]; simp
  · rw [if_neg e]
    by_cases e2 : x < nr
    · rw [if_pos e2, if_pos (by omega)]; simp [e]
    · rw [if_neg e2, if_neg (by omega)]
theorem m_pos_l {a b : Nat} (h : 0 < a * b) : 0 < a := Nat.pos_of_ne_zero fun e => by rw [e, Nat.zero_mul] at h; omega
theorem m_pos_r {a b : Nat} (h : 0 < a * b) : 0 < b := Nat.pos_of_ne_zero fun e => by rw [e, Nat.mul_zero] at h; omega
/-- whether a rule has a tree of this name over this span -/
def m_okr (g : Nat → Nat → Int) (C : Int → Int → Int → Nat) (lt : Nat → Int) (nm i j : Int) (r : Nat) : Prop := g 8 r = 0 ∧ g 1 r = nm ∧ 0 < m_wy C lt (g 2 r) (g 3 r) (g 4 r) i j
noncomputable def m_ch (g : Nat → Nat → Int) (C : Int → Int → Int → Nat) (lt : Nat → Int) (nm i j : Int) : Nat → Int
  | 0 => -1
  | r + 1 => @ite _ (m_okr g C lt nm i j r ∧ (m_ch g C lt nm i j r = -1 ∨ g 5 (m_ch g C lt nm i j r).toNat < g 5 r)) (Classical.propDecidable _) (r : Int) (m_ch g C lt nm i j r)
theorem m_ch_t {g : Nat → Nat → Int} {C : Int → Int → Int → Nat} {lt : Nat → Int} {nm i j : Int} {r : Nat} (h : m_okr g C lt nm i j r) (h2 : m_ch g C lt nm i j r = -1 ∨ g 5 (m_ch g C lt nm i j r).toNat < g 5 r) : m_ch g C lt nm i j (r + 1) = (r : Int) := by
  conv => lhs; unfold m_ch
  exact if_pos ⟨h, h2⟩
theorem m_ch_f {g : Nat → Nat → Int} {C : Int → Int → Int → Nat} {lt : Nat → Int} {nm i j : Int} {r : Nat} (h : ¬ (m_okr g C lt nm i j r ∧ (m_ch g C lt nm i j r = -1 ∨ g 5 (m_ch g C lt nm i j r).toNat < g 5 r))) : m_ch g C lt nm i j (r + 1) = m_ch g C lt nm i j r := by
  conv => lhs; unfold m_ch
  exact if_neg h
theorem m_ch_rg {g : Nat → Nat → Int} {C : Int → Int → Int → Nat} {lt : Nat → Int} {nm i j : Int} : ∀ n : Nat, m_ch g C lt nm i j n = -1 ∨ (0 ≤ m_ch g C lt nm i j n ∧ m_ch g C lt nm i j n < (n : Int) ∧ m_okr g C lt nm i j (m_ch g C lt nm i j n).toNat)
  | 0 => Or.inl rfl
  | n + 1 => by
    by_cases h : m_okr g C lt nm i j n ∧ (m_ch g C lt nm i j n = -1 ∨ g 5 (m_ch g C lt nm i j n).toNat < g 5 n)
    · rw [m_ch_t h.1 h.2]
      exact Or.inr ⟨by omega, by omega, by rw [show ((n : Int)).toNat = n by omega]; exact h.1⟩
    · rw [m_ch_f h]
      rcases m_ch_rg (g := g) (C := C) (lt := lt) (nm := nm) (i := i) (j := j) n with q | ⟨q1, q2, q3⟩
      · exact Or.inl q
      · exact Or.inr ⟨q1, by omega, q3⟩
theorem m_ch_no {g : Nat → Nat → Int} {C : Int → Int → Int → Nat} {lt : Nat → Int} {nm i j : Int} : ∀ n : Nat, m_ch g C lt nm i j n = -1 → ∀ r, r < n → ¬ m_okr g C lt nm i j r
  | 0, _, r, hr, _ => by omega
  | n + 1, h, r, hr, hk => by
    by_cases hh : m_okr g C lt nm i j n ∧ (m_ch g C lt nm i j n = -1 ∨ g 5 (m_ch g C lt nm i j n).toNat < g 5 n)
    · rw [m_ch_t hh.1 hh.2] at h; omega
    · rw [m_ch_f hh] at h
      by_cases e : r = n
      · subst e; exact hh ⟨hk, Or.inl h⟩
      · exact m_ch_no n h r (by omega) hk
theorem m_ch_congr {g : Nat → Nat → Int} {C C' : Int → Int → Int → Nat} {lt lt' : Nat → Int} {nm i j : Int} : ∀ {n : Nat}, (∀ r, r < n → (m_okr g C lt nm i j r ↔ m_okr g C' lt' nm i j r)) → m_ch g C lt nm i j n = m_ch g C' lt' nm i j n
  | 0, _ => rfl
  | n + 1, h => by
    have ih := m_ch_congr (n := n) (fun r hr => h r (by omega))
    by_cases hh : m_okr g C lt nm i j n ∧ (m_ch g C lt nm i j n = -1 ∨ g 5 (m_ch g C lt nm i j n).toNat < g 5 n)
    · rw [m_ch_t hh.1 hh.2, m_ch_t ((h n (by omega)).mp hh.1) (by rw [← ih]; exact hh.2)]
    · rw [m_ch_f hh, m_ch_f (fun q => hh ⟨(h n (by omega)).mpr q.1, by rw [ih]; exact q.2⟩)]
      exact ih
/-- the class's answer: the chosen rule's object, or null -/
def m_co (ra : Nat → Nat) (b : Int) : Option Nat := if b = -1 then none else some (ra b.toNat)
/-- what a rule's split is, where it has a tree -/
theorem m_split {C : Int → Int → Int → Nat} {row : Nat → Int} {f1 f2 f3 i j : Int} (hij : i ≤ j) (h : 0 < m_wy C row f1 f2 f3 i j) :
    (f2 = -1 ∧ m_sk C row f1 f2 f3 i j = j ∧ m_sl C row f1 f2 f3 i j = j ∧ 0 < m_part C row f1 i j) ∨
    (f2 ≠ -1 ∧ f3 = -1 ∧ i ≤ m_sk C row f1 f2 f3 i j ∧ m_sk C row f1 f2 f3 i j < j ∧ m_sl C row f1 f2 f3 i j = j ∧ 0 < m_part C row f1 i (m_sk C row f1 f2 f3 i j) ∧ 0 < m_part C row f2 (m_sk C row f1 f2 f3 i j + 1) j) ∨
    (f2 ≠ -1 ∧ f3 ≠ -1 ∧ i ≤ m_sk C row f1 f2 f3 i j ∧ m_sk C row f1 f2 f3 i j + 1 ≤ m_sl C row f1 f2 f3 i j ∧ m_sl C row f1 f2 f3 i j < j ∧ 0 < m_part C row f1 i (m_sk C row f1 f2 f3 i j) ∧ 0 < m_part C row f2 (m_sk C row f1 f2 f3 i j + 1) (m_sl C row f1 f2 f3 i j) ∧ 0 < m_part C row f3 (m_sl C row f1 f2 f3 i j + 1) j) := by
  unfold m_wy at h
  by_cases h2 : f2 = -1
  · rw [if_pos h2] at h
    refine Or.inl ⟨h2, ?_, ?_, h⟩
    · unfold m_sk; rw [if_pos h2]
    · unfold m_sl; rw [if_pos h2]
  · rw [if_neg h2] at h
    by_cases h3 : f3 = -1
    · rw [if_pos h3] at h
      obtain ⟨k, a, b, c⟩ := m_S_pos.mp h
      have hs : m_sk C row f1 f2 f3 i j = m_fs (fun k => 0 < m_part C row f1 i k ∧ 0 < m_part C row f2 (k + 1) j) i j := by unfold m_sk; rw [if_neg h2, if_pos h3]
      obtain ⟨q1, q2, q3, q4⟩ := m_fs_spec (P := fun k => 0 < m_part C row f1 i k ∧ 0 < m_part C row f2 (k + 1) j) a b ⟨m_pos_l c, m_pos_r c⟩
      rw [← hs] at q1 q2 q3
      refine Or.inr (Or.inl ⟨h2, h3, q1, by omega, ?_, q3.1, q3.2⟩)
      unfold m_sl; rw [if_neg h2, if_pos h3]
    · rw [if_neg h3] at h
      obtain ⟨k, a, b, c⟩ := m_S_pos.mp h
      have hs : m_sk C row f1 f2 f3 i j = m_fs (fun k => 0 < m_part C row f1 i k ∧ 0 < m_two C row f2 f3 (k + 1) j) i (j - 1) := by unfold m_sk; rw [if_neg h2, if_neg h3]
      obtain ⟨q1, q2, q3, q4⟩ := m_fs_spec (P := fun k => 0 < m_part C row f1 i k ∧ 0 < m_two C row f2 f3 (k + 1) j) a b ⟨m_pos_l c, m_pos_r c⟩
      rw [← hs] at q1 q2 q3
      obtain ⟨l, d, e, f⟩ := m_S_pos.mp q3.2
      have hl : m_sl C row f1 f2 f3 i j = m_fs (fun l => 0 < m_part C row f2 (m_sk C row f1 f2 f3 i j + 1) l ∧ 0 < m_part C row f3 (l + 1) j) (m_sk C row f1 f2 f3 i j + 1) j := by unfold m_sl; rw [if_neg h2, if_neg h3]
      obtain ⟨p1, p2, p3, p4⟩ := m_fs_spec (P := fun l => 0 < m_part C row f2 (m_sk C row f1 f2 f3 i j + 1) l ∧ 0 < m_part C row f3 (l + 1) j) d e ⟨m_pos_l f, m_pos_r f⟩
      rw [← hl] at p1 p2 p3
      exact Or.inr (Or.inr ⟨h2, h3, q1, p1, by omega, q3.1, p3.1, p3.2⟩)
