/-! THE TRIAL: what it stands on, what it remembers. Mine. -/
def kTrE (w : kW) (ax ak q a la na : Nat) (lt : Nat → Int) (N : Nat → Nat) (c : Int) (ag ap nr : Nat) (ra : Nat → Nat) (g : Nat → Nat → Int) : Prop :=
  w 15 = some (ax, ob 7 [.ref ak]) ∧ kSp w q a la na lt N c ∧ kGr w ag ap nr ra g ∧ kLt lt ∧ (∀ x, N x ≤ 1000) ∧ kWf g nr ∧ (q + 2 < 15 ∨ 16 < q)
def kTk (g : Nat → Nat → Int) (nr : Nat) (lt : Nat → Int) (kn : Nat → Int) : Prop := ∀ s i j : Int, m_isN s → 0 ≤ i → i ≤ j → j < 10 → kn (((s - 10) * 10 + i) * 10 + j).toNat = -1 ∨ kn (((s - 10) * 10 + i) * 10 + j).toNat = ((m_TT g nr lt s i j : Nat) : Int)
theorem m_idx {s i j s2 i2 j2 : Int} (hi : 0 ≤ i ∧ i < 10) (hj : 0 ≤ j ∧ j < 10) (hi2 : 0 ≤ i2 ∧ i2 < 10) (hj2 : 0 ≤ j2 ∧ j2 < 10) (h : ((s - 10) * 10 + i) * 10 + j = ((s2 - 10) * 10 + i2) * 10 + j2) : s = s2 ∧ i = i2 ∧ j = j2 := by
  have e1 : (s - 10) * 10 + i = (s2 - 10) * 10 + i2 := by omega
  have e2 : s = s2 := by omega
  omega
theorem kTk.up {g : Nat → Nat → Int} {nr : Nat} {lt : Nat → Int} {kn : Nat → Int} {nm i j : Int} {v : Nat} (h : kTk g nr lt kn) (hn : m_isN nm) (hi : 0 ≤ i ∧ i ≤ j) (hj : j < 10) (hv : v = m_TT g nr lt nm i j) : kTk g nr lt (kup kn (((nm - 10) * 10 + i) * 10 + j).toNat ((v : Nat) : Int)) := by
  intro s i2 j2 q0 q1 q2 q3
  by_cases e : s = nm ∧ i2 = i ∧ j2 = j
  · obtain ⟨rfl, rfl, rfl⟩ := e
    rw [kup_eq, hv]
    exact Or.inr rfl
  · have e1 : ((s - 10) * 10 + i2) * 10 + j2 ≠ ((nm - 10) * 10 + i) * 10 + j := fun q => e (m_idx (by omega) (by omega) (by omega) (by omega) q)
    rw [kup_ne (by omega)]
    exact h s i2 j2 q0 q1 q2 q3
theorem kTk.fresh {g : Nat → Nat → Int} {nr : Nat} {lt f : Nat → Int} : kTk g nr lt (m_fl f (-1) ((500 : Nat) : Int)) := by
  intro s i j q0 q1 q2 q3
  refine Or.inl ?_
  unfold m_fl
  rw [if_pos (by omega)]
def m_bh (C : Int → Int → Int → Nat) (lt : Nat → Int) (f2 f3 i j : Int) : Nat := if f3 = -1 then m_part C lt f2 i j else m_two C lt f2 f3 i j
theorem m_part_le {g : Nat → Nat → Int} {nr : Nat} {lt : Nat → Int} {s i j : Int} : m_part (m_TT g nr lt) lt s i j ≤ 1000 := by
  unfold m_part
  split
  · split <;> omega
  · exact m_TT_le
theorem m_ms_le {nm i j : Int} (h : m_isN nm) (hij : i ≤ j) : (m_ms nm i j : Int) ≤ (j - i) * 5 + 5 ∧ (j - i) * 5 + 1 ≤ (m_ms nm i j : Int) := by unfold m_ms; omega
theorem m_ms_eq {nm i j : Int} (h : m_isN nm) (hij : i ≤ j) : (m_ms nm i j : Int) = (j - i) * 5 + (14 - nm) + 1 := by unfold m_ms; omega
/-- the trial's sum over the first part's end is the true one -/
theorem m_bh_wy {C : Int → Int → Int → Nat} {lt : Nat → Int} {f1 f2 f3 i j : Int} (h2 : f2 ≠ -1) (hij : i ≤ j) : m_S (fun k => m_part C lt f1 i k * m_bh C lt f2 f3 (k + 1) j) i j = m_wy C lt f1 f2 f3 i j := by
  unfold m_wy m_bh
  rw [if_neg h2]
  by_cases h3 : f3 = -1
  · rw [if_pos h3]
    unfold m_two
    exact m_S_congr fun k _ _ => by rw [if_pos h3]
  · rw [if_neg h3]
    have e : m_S (fun k => m_part C lt f1 i k * (if f3 = -1 then m_part C lt f2 (k + 1) j else m_two C lt f2 f3 (k + 1) j)) i j = m_S (fun k => m_part C lt f1 i k * m_two C lt f2 f3 (k + 1) j) i j := m_S_congr fun k _ _ => by rw [if_neg h3]
    rw [e]
    by_cases hlt : i < j
    · have e2 : m_S (fun k => m_part C lt f1 i k * m_two C lt f2 f3 (k + 1) j) i j = m_S (fun k => m_part C lt f1 i k * m_two C lt f2 f3 (k + 1) j) i (j - 1 + 1) := by rw [show j - 1 + 1 = j by omega]
      rw [e2, m_S_succ (by omega)]
      have z : m_two C lt f2 f3 (j - 1 + 1) j = 0 := m_S_self (by omega)
      rw [z, Nat.mul_zero, Nat.add_zero]
    · rw [m_S_self (by omega), m_S_self (by omega)]
theorem m_sum_step {f : Int → Nat} {i k : Int} {s : Nat} (hik : i ≤ k) (hs : s = m_cap (m_S f i k)) : m_cap (s + f k) = m_cap (m_S f i (k + 1)) := by rw [m_S_succ hik, hs, m_cap_addl]
theorem m_sum_stay {f : Int → Nat} {i k : Int} {s : Nat} (hik : i ≤ k) (hs : s = m_cap (m_S f i k)) (h0 : f k = 0) : s = m_cap (m_S f i (k + 1)) := by rw [m_S_succ hik, h0, Nat.add_zero]; exact hs
