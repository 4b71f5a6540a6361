/-! PURE: the kept table, entry by entry. Mine. -/
theorem kup_cast {N : Nat → Nat} {k v : Nat} : kup (fun x => ((N x : Nat) : Int)) k ((v : Nat) : Int) = fun x => ((kup N k v x : Nat) : Int) := by
  funext x; unfold kup; split <;> rfl
theorem m_Cn_eq {N : Nat → Nat} {s i j : Int} {v : Nat} : m_Cn (kup N (((s - 10) * 10 + i) * 10 + j).toNat v) s i j = v := kup_eq
theorem m_Cn_ne {N : Nat → Nat} {s i j s' i' j' : Int} {v : Nat} (hs : 10 ≤ s) (hs' : 10 ≤ s') (hi : 0 ≤ i ∧ i < 10) (hj : 0 ≤ j ∧ j < 10) (hi' : 0 ≤ i' ∧ i' < 10) (hj' : 0 ≤ j' ∧ j' < 10) (h : s' ≠ s ∨ i' ≠ i ∨ j' ≠ j) : m_Cn (kup N (((s - 10) * 10 + i) * 10 + j).toNat v) s' i' j' = m_Cn N s' i' j' := by
  unfold m_Cn
  exact kup_ne (by omega)
theorem kup_le {N : Nat → Nat} {k v : Nat} (hN : ∀ x, N x ≤ 1000) (hv : v ≤ 1000) : ∀ x, kup N k v x ≤ 1000 := fun x => by unfold kup; split <;> first | exact hv | exact hN x
theorem m_sn_le {f : Nat → Nat} : ∀ {n : Nat}, (∀ k, k < n → f k = 0) → m_sn f n = 0
  | 0, _ => rfl
  | n + 1, h => by show m_sn f n + f n = 0; rw [m_sn_le (n := n) (fun k hk => h k (by omega)), h n (by omega)]
theorem m_sn_succ {f : Nat → Nat} {n : Nat} : m_sn f (n + 1) = m_sn f n + f n := rfl
/-- one rule more in the sum over a name -/
theorem m_rs_step {C : Int → Int → Int → Nat} {lt : Nat → Int} {g : Nat → Nat → Int} {nm i j r : Int} {s v : Nat} (h0 : 0 ≤ r) (hs : s = m_cap (m_sn (m_rs C lt g nm i j) r.toNat)) (hv : v = m_rs C lt g nm i j r.toNat) : m_cap (s + v) = m_cap (m_sn (m_rs C lt g nm i j) (r + 1).toNat) := by
  rw [show (r + 1).toNat = r.toNat + 1 by omega, m_sn_succ, hs, hv, m_cap_addl]
theorem m_rs_stay {C : Int → Int → Int → Nat} {lt : Nat → Int} {g : Nat → Nat → Int} {nm i j r : Int} {s : Nat} (h0 : 0 ≤ r) (hs : s = m_cap (m_sn (m_rs C lt g nm i j) r.toNat)) (hv : m_rs C lt g nm i j r.toNat = 0) : s = m_cap (m_sn (m_rs C lt g nm i j) (r + 1).toNat) := by
  rw [show (r + 1).toNat = r.toNat + 1 by omega, m_sn_succ, hv, Nat.add_zero]; exact hs
theorem m_rs_dead {C : Int → Int → Int → Nat} {lt : Nat → Int} {g : Nat → Nat → Int} {nm i j : Int} {r : Nat} (h : ¬ (g 8 r = 0 ∧ g 1 r = nm)) : m_rs C lt g nm i j r = 0 := if_neg h
theorem m_rs_live {C : Int → Int → Int → Nat} {lt : Nat → Int} {g : Nat → Nat → Int} {nm i j : Int} {r : Nat} (h : g 8 r = 0 ∧ g 1 r = nm) : m_rs C lt g nm i j r = m_wy C lt (g 2 r) (g 3 r) (g 4 r) i j := if_pos h
/-- a name's sum over a span out of kept numbers that are true below it -/
theorem m_row_true {C : Int → Int → Int → Nat} {lt : Nat → Int} {g : Nat → Nat → Int} {nr : Nat} {nm i j : Int} (hwf : ∀ r, r < nr → m_wf g r) (hn : m_isN nm) (hij : i ≤ j) (hw : j - i < 10) (h1 : ∀ s i' j' : Int, m_isN s → i ≤ i' → i' ≤ j' → j' ≤ j → j' - i' < j - i → C s i' j' = m_TT g nr lt s i' j') (h2 : ∀ s : Int, nm < s → s < 15 → C s i j = m_TT g nr lt s i j) : m_cap (m_sn (m_rs C lt g nm i j) nr) = m_TT g nr lt nm i j := by
  rw [m_TT_eq hwf hn hij hw]
  congr 1
  refine m_sn_congr fun r hr => m_rs_congr hij (hwf r hr) (fun _ _ _ => rfl) fun s i' j' hs a b c e => ?_
  rcases e with e | ⟨e, rfl, rfl⟩
  · exact h1 s i' j' hs a b c e
  · exact h2 s e hs.2
def m_fa (c : Int) : Nat → Int
  | 0 => 0
  | n + 1 => m_fa c n + (c - n)
theorem m_fa_eq {c : Int} (h : 0 ≤ c ∧ c ≤ 10) : m_fa c c.toNat = c * (c + 1) / 2 := by
  obtain ⟨n, rfl⟩ : ∃ n : Nat, c = n := ⟨c.toNat, by omega⟩
  have hn : n ≤ 10 := by omega
  have key : ∀ n : Fin 11, m_fa (n.val : Int) ((n.val : Int)).toNat = (n.val : Int) * ((n.val : Int) + 1) / 2 := by decide +kernel
  exact key ⟨n, by omega⟩
theorem m_fa_step {c x : Int} (h : 1 ≤ x) : m_fa c x.toNat = m_fa c (x - 1).toNat + (c - x + 1) := by
  rw [show x.toNat = (x - 1).toNat + 1 by omega]
  show m_fa c (x - 1).toNat + (c - ((x - 1).toNat : Int)) = _
  omega
def m_fh (c p : Int) : Nat → Int
  | 0 => 0
  | n + 1 => m_fh c p n + ((if p ≤ c - (n + 1) then p else c - (n + 1)) - (if p - (n + 1) + 1 ≤ 0 then 0 else p - (n + 1) + 1) + 1)
theorem m_fh_eq {c p : Int} (h : 0 ≤ p ∧ p < c) (hc : c ≤ 10) : m_fh c p c.toNat = (p + 1) * (c - p) := by
  obtain ⟨n, rfl⟩ : ∃ n : Nat, c = n := ⟨c.toNat, by omega⟩
  obtain ⟨m, rfl⟩ : ∃ m : Nat, p = m := ⟨p.toNat, by omega⟩
  have key : ∀ (n : Fin 11) (m : Fin 10), m.val < n.val → m_fh (n.val : Int) (m.val : Int) ((n.val : Int)).toNat = ((m.val : Int) + 1) * ((n.val : Int) - (m.val : Int)) := by decide +kernel
  exact key ⟨n, by omega⟩ ⟨m, by omega⟩ (by show m < n; omega)
theorem m_fh_step {c p x u v : Int} (h : 1 ≤ x) (hu : (u = p ∧ p ≤ c - x) ∨ (u = c - x ∧ c - x < p)) (hv : (v = 0 ∧ p - x + 1 ≤ 0) ∨ (v = p - x + 1 ∧ 0 < p - x + 1)) : m_fh c p x.toNat = m_fh c p (x - 1).toNat + (u - v + 1) := by
  rw [show x.toNat = (x - 1).toNat + 1 by omega]
  show m_fh c p (x - 1).toNat + _ = _
  rw [show (((x - 1).toNat : Int) + 1) = x by omega]
  have e1 : (if p ≤ c - x then p else c - x) = u := by split <;> omega
  have e2 : (if p - x + 1 ≤ 0 then 0 else p - x + 1) = v := by split <;> omega
  rw [e1, e2]
/-- the odometer -/
def m_nx (K : Int) : Nat → (Nat → Int) → Bool × (Nat → Int)
  | 0, f => (false, f)
  | p + 1, f => if f p + 1 < K then (true, kup f p (f p + 1)) else m_nx K p (kup f p 0)
