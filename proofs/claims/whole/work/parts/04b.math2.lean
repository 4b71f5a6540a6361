/-! PURE: the class's own sums and splits against the true ones. Mine. -/
theorem m_sm_front {f : Int → Nat} : ∀ {a : Int} {n : Nat}, m_sm f a (n + 1) = f a + m_sm f (a + 1) n
  | a, 0 => by show 0 + f (a + ((0 : Nat) : Int)) = f a + 0; rw [show a + ((0 : Nat) : Int) = a by omega]; omega
  | a, n + 1 => by
    show m_sm f a (n + 1) + f (a + ((n + 1 : Nat) : Int)) = f a + (m_sm f (a + 1) n + f (a + 1 + (n : Int)))
    rw [m_sm_front (a := a) (n := n), show a + ((n + 1 : Nat) : Int) = a + 1 + (n : Int) by omega]
    omega
theorem m_S_front {f : Int → Nat} {a b : Int} (h : a < b) : m_S f a b = f a + m_S f (a + 1) b := by
  unfold m_S
  rw [show (b - a).toNat = (b - (a + 1)).toNat + 1 by omega, m_sm_front]
theorem m_S_one {f : Int → Nat} {a : Int} : m_S f a (a + 1) = f a := by
  rw [m_S_succ (by omega), m_S_self (by omega)]; omega
theorem m_sm_mul {f : Int → Nat} {a : Int} (c : Nat) : ∀ {n : Nat}, m_sm (fun k => c * f k) a n = c * m_sm f a n
  | 0 => rfl
  | n + 1 => by
    show m_sm (fun k => c * f k) a n + c * f (a + n) = c * (m_sm f a n + f (a + n))
    rw [m_sm_mul (n := n), Nat.mul_add]
theorem m_S_mul {f : Int → Nat} {a b : Int} (c : Nat) : m_S (fun k => c * f k) a b = c * m_S f a b := m_sm_mul c
theorem m_tr_s {N : Nat → Nat} {lt : Nat → Int} {s a b : Int} (hs : s ≠ -1) (h : a ≤ b) : m_tr N lt s a b = m_part (m_Cn N) lt s a b := by
  unfold m_tr; rw [if_neg hs, if_neg (by omega)]
theorem m_tr_0 {N : Nat → Nat} {lt : Nat → Int} {s a b : Int} (hs : s ≠ -1) (h : b < a) : m_tr N lt s a b = 0 := by
  unfold m_tr; rw [if_neg hs, if_pos h]
theorem m_tr_n {N : Nat → Nat} {lt : Nat → Int} {a b : Int} (h : b < a) : m_tr N lt (-1) a b = 1 := by
  unfold m_tr; rw [if_pos rfl, if_pos h]
def m_in (N : Nat → Nat) (lt : Nat → Int) (f1 f2 f3 i j k l : Int) : Nat := m_tr N lt f1 i k * m_tr N lt f2 (k + 1) l * m_tr N lt f3 (l + 1) j
def m_l0 (f3 j k : Int) : Int := if f3 = -1 then j else k
def m_k0 (f2 i j : Int) : Int := if f2 = -1 then j else i
def m_ik (N : Nat → Nat) (lt : Nat → Int) (f1 f2 f3 i j k : Int) : Nat := m_S (fun l => m_in N lt f1 f2 f3 i j k l) (m_l0 f3 j k) (j + 1)
def m_by (N : Nat → Nat) (lt : Nat → Int) (f1 f2 f3 i j : Int) : Nat := m_S (fun k => m_ik N lt f1 f2 f3 i j k) (m_k0 f2 i j) (j + 1)
theorem m_sym1 {s : Int} (h : m_isS s) : s ≠ -1 := by rcases h with h | h <;> omega
theorem m_by_wy {N : Nat → Nat} {lt : Nat → Int} {f1 f2 f3 i j : Int} (h1 : m_isS f1) (h23 : (f2 = -1 ∧ f3 = -1) ∨ (m_isS f2 ∧ (f3 = -1 ∨ m_isS f3))) (hij : i ≤ j) : m_by N lt f1 f2 f3 i j = m_wy (m_Cn N) lt f1 f2 f3 i j := by
  have n1 := m_sym1 h1
  unfold m_by m_wy m_k0
  rcases h23 with ⟨e2, e3⟩ | ⟨h2, h3⟩
  · subst e2; subst e3
    rw [if_pos rfl, if_pos rfl, m_S_one]
    unfold m_ik m_l0
    rw [if_pos rfl, m_S_one]
    unfold m_in
    rw [m_tr_n (by omega), m_tr_s n1 hij]
    omega
  · have n2 := m_sym1 h2
    rw [if_neg n2, if_neg n2]
    rcases h3 with e3 | h3
    · subst e3
      rw [if_pos rfl, m_S_succ hij]
      have z : m_ik N lt f1 f2 (-1) i j j = 0 := by
        unfold m_ik m_l0 m_in
        rw [if_pos rfl, m_S_one, m_tr_0 n2 (by omega)]
        simp
      rw [z, Nat.add_zero]
      unfold m_two
      refine m_S_congr fun k a b => ?_
      unfold m_ik m_l0 m_in
      rw [if_pos rfl, m_S_one, m_tr_n (by omega), m_tr_s n1 a, m_tr_s n2 (by omega), Nat.mul_one]
    · have n3 := m_sym1 h3
      rw [if_neg n3]
      have ik : ∀ k : Int, i ≤ k → k ≤ j → m_ik N lt f1 f2 f3 i j k = m_part (m_Cn N) lt f1 i k * m_two (m_Cn N) lt f2 f3 (k + 1) j := by
        intro k a b
        unfold m_ik m_l0
        rw [if_neg n3, m_S_succ b]
        have z : m_in N lt f1 f2 f3 i j k j = 0 := by unfold m_in; rw [m_tr_0 n3 (by omega), Nat.mul_zero]
        rw [z, Nat.add_zero]
        by_cases e : k < j
        · rw [m_S_front e]
          have z2 : m_in N lt f1 f2 f3 i j k k = 0 := by unfold m_in; rw [m_tr_0 n2 (by omega), Nat.mul_zero, Nat.zero_mul]
          rw [z2, Nat.zero_add]
          unfold m_two
          rw [← m_S_mul]
          refine m_S_congr fun l c d => ?_
          unfold m_in
          rw [m_tr_s n1 a, m_tr_s n2 c, m_tr_s n3 (by omega), Nat.mul_assoc]
        · rw [m_S_self (by omega)]
          unfold m_two
          rw [m_S_self (by omega), Nat.mul_zero]
      rw [m_S_succ hij, ik j hij (Int.le_refl j)]
      have t0 : m_two (m_Cn N) lt f2 f3 (j + 1) j = 0 := m_S_self (by omega)
      rw [t0, Nat.mul_zero, Nat.add_zero]
      by_cases e : i < j
      · rw [show m_S (fun k => m_ik N lt f1 f2 f3 i j k) i j = m_S (fun k => m_ik N lt f1 f2 f3 i j k) i (j - 1 + 1) by rw [show j - 1 + 1 = j by omega], m_S_succ (by omega), ik (j - 1) (by omega) (by omega)]
        have t1 : m_two (m_Cn N) lt f2 f3 (j - 1 + 1) j = 0 := m_S_self (by omega)
        rw [t1, Nat.mul_zero, Nat.add_zero]
        exact m_S_congr fun k a b => ik k a (by omega)
      · rw [m_S_self (by omega), m_S_self (by omega)]
theorem m_by_pos {N : Nat → Nat} {lt : Nat → Int} {f1 f2 f3 i j : Int} : 0 < m_by N lt f1 f2 f3 i j ↔ ∃ k l : Int, m_k0 f2 i j ≤ k ∧ k ≤ j ∧ m_l0 f3 j k ≤ l ∧ l ≤ j ∧ 0 < m_in N lt f1 f2 f3 i j k l := by
  unfold m_by
  rw [m_S_pos]
  constructor
  · rintro ⟨k, a, b, c⟩
    unfold m_ik at c
    obtain ⟨l, d, e, f⟩ := m_S_pos.mp c
    exact ⟨k, l, a, by omega, d, by omega, f⟩
  · rintro ⟨k, l, a, b, c, d, e⟩
    exact ⟨k, a, by omega, m_S_pos.mpr ⟨l, c, by omega, e⟩⟩
noncomputable def m_fsn (P : Int → Prop) (a : Int) : Nat → Int
  | 0 => a
  | n + 1 => @ite _ (P a) (Classical.propDecidable _) a (m_fsn P (a + 1) n)
noncomputable def m_fs (P : Int → Prop) (a b : Int) : Int := m_fsn P a (b - a).toNat
theorem m_fsn_eq {P : Int → Prop} : ∀ {n : Nat} {a k : Int}, a ≤ k → k < a + n → P k → (∀ k', a ≤ k' → k' < k → ¬ P k') → m_fsn P a n = k
  | 0, a, k, h1, h2, _, _ => by omega
  | n + 1, a, k, h1, h2, h3, h4 => by
    unfold m_fsn
    by_cases e : a = k
    · subst e; rw [if_pos h3]
    · rw [if_neg (h4 a (by omega) (by omega))]
      exact m_fsn_eq (by omega) (by omega) h3 (fun k' a1 b1 => h4 k' (by omega) b1)
theorem m_fs_eq {P : Int → Prop} {a b k : Int} (h1 : a ≤ k) (h2 : k < b) (h3 : P k) (h4 : ∀ k', a ≤ k' → k' < k → ¬ P k') : m_fs P a b = k := m_fsn_eq h1 (by omega) h3 h4
theorem m_fsn_spec {P : Int → Prop} : ∀ {n : Nat} {a k : Int}, a ≤ k → k < a + n → P k → a ≤ m_fsn P a n ∧ m_fsn P a n ≤ k ∧ P (m_fsn P a n) ∧ ∀ k', a ≤ k' → k' < m_fsn P a n → ¬ P k'
  | 0, a, k, h1, h2, _ => by omega
  | n + 1, a, k, h1, h2, h3 => by
    unfold m_fsn
    by_cases e : P a
    · rw [if_pos e]
      exact ⟨Int.le_refl _, h1, e, fun k' a1 b1 => by omega⟩
    · rw [if_neg e]
      have hk : a ≠ k := fun q => e (q ▸ h3)
      obtain ⟨q1, q2, q3, q4⟩ := m_fsn_spec (P := P) (n := n) (a := a + 1) (k := k) (by omega) (by omega) h3
      refine ⟨by omega, q2, q3, fun k' a1 b1 => ?_⟩
      by_cases e2 : k' = a
      · subst e2; exact e
      · exact q4 k' (by omega) b1
theorem m_fs_spec {P : Int → Prop} {a b k : Int} (h1 : a ≤ k) (h2 : k < b) (h3 : P k) : a ≤ m_fs P a b ∧ m_fs P a b ≤ k ∧ P (m_fs P a b) ∧ ∀ k', a ≤ k' → k' < m_fs P a b → ¬ P k' := m_fsn_spec h1 (by omega) h3
/-- where the first and the second part of the chosen tree with a rule end -/
noncomputable def m_sk (C : Int → Int → Int → Nat) (row : Nat → Int) (f1 f2 f3 i j : Int) : Int :=
  if f2 = -1 then j else if f3 = -1 then m_fs (fun k => 0 < m_part C row f1 i k ∧ 0 < m_part C row f2 (k + 1) j) i j else m_fs (fun k => 0 < m_part C row f1 i k ∧ 0 < m_two C row f2 f3 (k + 1) j) i (j - 1)
noncomputable def m_sl (C : Int → Int → Int → Nat) (row : Nat → Int) (f1 f2 f3 i j : Int) : Int :=
  if f2 = -1 then j else if f3 = -1 then j else m_fs (fun l => 0 < m_part C row f2 (m_sk C row f1 f2 f3 i j + 1) l ∧ 0 < m_part C row f3 (l + 1) j) (m_sk C row f1 f2 f3 i j + 1) j
/-- what the class's search for a split finds -/
def m_sp (N : Nat → Nat) (lt : Nat → Int) (f1 f2 f3 i j k l : Int) : Prop := m_k0 f2 i j ≤ k ∧ k ≤ j ∧ m_l0 f3 j k ≤ l ∧ l ≤ j ∧ 0 < m_in N lt f1 f2 f3 i j k l ∧ (∀ k' l' : Int, m_k0 f2 i j ≤ k' → k' < k → m_l0 f3 j k' ≤ l' → l' ≤ j → m_in N lt f1 f2 f3 i j k' l' = 0) ∧ ∀ l' : Int, m_l0 f3 j k ≤ l' → l' < l → m_in N lt f1 f2 f3 i j k l' = 0
theorem m_in_pos {N : Nat → Nat} {lt : Nat → Int} {f1 f2 f3 i j k l : Int} : 0 < m_in N lt f1 f2 f3 i j k l ↔ 0 < m_tr N lt f1 i k ∧ 0 < m_tr N lt f2 (k + 1) l ∧ 0 < m_tr N lt f3 (l + 1) j := by
  unfold m_in
  simp only [Nat.pos_iff_ne_zero, ne_eq, Nat.mul_eq_zero, not_or, and_assoc]
theorem m_sp_eq {N : Nat → Nat} {lt : Nat → Int} {f1 f2 f3 i j k l : Int} (h1 : m_isS f1) (h23 : (f2 = -1 ∧ f3 = -1) ∨ (m_isS f2 ∧ (f3 = -1 ∨ m_isS f3))) (hij : i ≤ j) (h : m_sp N lt f1 f2 f3 i j k l) : 0 < m_wy (m_Cn N) lt f1 f2 f3 i j ∧ k = m_sk (m_Cn N) lt f1 f2 f3 i j ∧ l = m_sl (m_Cn N) lt f1 f2 f3 i j := by
  have n1 := m_sym1 h1
  obtain ⟨a1, a2, a3, a4, a5, a6, a7⟩ := h
  refine ⟨by rw [← m_by_wy h1 h23 hij]; exact m_by_pos.mpr ⟨k, l, a1, a2, a3, a4, a5⟩, ?_⟩
  obtain ⟨p1, p2, p3⟩ := m_in_pos.mp a5
  unfold m_sl
  rcases h23 with ⟨e2, e3⟩ | ⟨h2, h3⟩
  · subst e2; subst e3
    unfold m_k0 at a1
    unfold m_l0 at a3
    rw [if_pos rfl] at a1 a3
    unfold m_sk
    rw [if_pos rfl, if_pos rfl]
    omega
  · have n2 := m_sym1 h2
    unfold m_k0 at a1 a6
    rw [if_neg n2] at a1
    simp only [if_neg n2] at a6
    have hkl : k + 1 ≤ l := by
      rcases Int.lt_or_le l (k + 1) with q | q
      · rw [m_tr_0 n2 q] at p2; omega
      · exact q
    rw [m_tr_s n1 a1] at p1
    rw [m_tr_s n2 hkl] at p2
    rcases h3 with e3 | h3
    · subst e3
      unfold m_l0 at a3 a6
      rw [if_pos rfl] at a3
      simp only [if_pos] at a6
      have el : l = j := by omega
      subst el
      have ek : m_sk (m_Cn N) lt f1 f2 (-1) i l = k := by
        unfold m_sk
        rw [if_neg n2, if_pos rfl]
        refine m_fs_eq a1 (by omega) ⟨p1, p2⟩ fun k' b1 b2 q => ?_
        have := a6 k' l b1 b2 (Int.le_refl l) (Int.le_refl l)
        unfold m_in at this
        rw [m_tr_n (by omega), m_tr_s n1 b1, m_tr_s n2 (by omega), Nat.mul_one] at this
        have := Nat.mul_pos q.1 q.2
        omega
      rw [ek, if_neg n2, if_pos rfl]
      exact ⟨rfl, rfl⟩
    · have n3 := m_sym1 h3
      unfold m_l0 at a3 a6 a7
      rw [if_neg n3] at a3
      simp only [if_neg n3] at a6 a7
      have hlj : l + 1 ≤ j := by
        rcases Int.lt_or_le j (l + 1) with q | q
        · rw [m_tr_0 n3 q] at p3; omega
        · exact q
      rw [m_tr_s n3 hlj] at p3
      have ek : m_sk (m_Cn N) lt f1 f2 f3 i j = k := by
        unfold m_sk
        rw [if_neg n2, if_neg n3]
        refine m_fs_eq a1 (by omega) ⟨p1, m_S_pos.mpr ⟨l, hkl, by omega, Nat.mul_pos p2 p3⟩⟩ fun k' b1 b2 q => ?_
        obtain ⟨l', c1, c2, c3⟩ := m_S_pos.mp q.2
        have hz := a6 k' l' b1 b2 (by omega) (by omega)
        unfold m_in at hz
        rw [m_tr_s n1 b1, m_tr_s n2 c1, m_tr_s n3 (by omega), Nat.mul_assoc] at hz
        have := Nat.mul_pos q.1 c3
        omega
      rw [ek, if_neg n2, if_neg n3]
      refine ⟨rfl, (m_fs_eq hkl (by omega) ⟨p2, p3⟩ fun l' b1 b2 q => ?_).symm⟩
      have hz := a7 l' (by omega) b2
      unfold m_in at hz
      rw [m_tr_s n1 a1, m_tr_s n2 b1, m_tr_s n3 (by omega)] at hz
      have := Nat.mul_pos (Nat.mul_pos p1 q.1) q.2
      omega
theorem m_sp_none {N : Nat → Nat} {lt : Nat → Int} {f1 f2 f3 i j : Int} (h1 : m_isS f1) (h23 : (f2 = -1 ∧ f3 = -1) ∨ (m_isS f2 ∧ (f3 = -1 ∨ m_isS f3))) (hij : i ≤ j) (h : ∀ k l : Int, m_k0 f2 i j ≤ k → k ≤ j → m_l0 f3 j k ≤ l → l ≤ j → m_in N lt f1 f2 f3 i j k l = 0) : m_wy (m_Cn N) lt f1 f2 f3 i j = 0 := by
  rw [← m_by_wy h1 h23 hij]
  rcases Nat.eq_zero_or_pos (m_by N lt f1 f2 f3 i j) with e | e
  · exact e
  · obtain ⟨k, l, a, b, c, d, f⟩ := m_by_pos.mp e
    have := h k l a b c d
    omega
def m_lim (x : Int) : Int := if 1000 < x then 1000 else x
theorem m_lim_cap (n : Nat) : m_lim (n : Int) = ((m_cap n : Nat) : Int) := by unfold m_lim m_cap; (repeat' split) <;> omega
