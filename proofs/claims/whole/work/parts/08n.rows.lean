/-! PURE: the rows of a few letters, in their order. Mine. -/
def m_rw (K : Int) (c n : Nat) : Nat → Int := fun p => if p < c then (((n / K.toNat ^ (c - 1 - p)) % K.toNat : Nat) : Int) else 0
def m_pw (K : Int) (c : Nat) : Nat := K.toNat ^ c
theorem m_pw_le {K : Int} {c : Nat} (hK : 1 ≤ K ∧ K ≤ 3) (hc : c ≤ 4) : 1 ≤ m_pw K c ∧ m_pw K c ≤ 81 := by
  obtain ⟨k, rfl⟩ : ∃ k : Nat, K = k := ⟨K.toNat, by omega⟩
  have key : ∀ (k : Fin 4) (c : Fin 5), 1 ≤ k.val → 1 ≤ ((k.val : Int)).toNat ^ c.val ∧ ((k.val : Int)).toNat ^ c.val ≤ 81 := by decide +kernel
  exact key ⟨k, by omega⟩ ⟨c, by omega⟩ (by show 1 ≤ k; omega)
theorem m_nx_cg {K : Int} : ∀ {c : Nat} {f f' : Nat → Int}, (∀ p, p < c → f p = f' p) → (m_nx K c f).1 = (m_nx K c f').1 ∧ ∀ p, p < c → (m_nx K c f).2 p = (m_nx K c f').2 p
  | 0, f, f', h => ⟨rfl, fun p hp => by omega⟩
  | c + 1, f, f', h => by
    unfold m_nx
    rw [h c (by omega)]
    split
    · refine ⟨rfl, fun p hp => ?_⟩
      show kup f c _ p = kup f' c _ p
      unfold kup
      split
      · rfl
      · exact h p hp
    · have q := m_nx_cg (K := K) (c := c) (f := kup f c 0) (f' := kup f' c 0) (fun p hp => by rw [kup_ne (by omega), kup_ne (by omega)]; exact h p (by omega))
      refine ⟨q.1, fun p hp => ?_⟩
      by_cases e : p = c
      · subst e
        have k : ∀ {c' : Nat} {f : Nat → Int}, c' ≤ p → (m_nx K c' f).2 p = f p := by
          intro c'
          induction c' with
          | zero => intro f _; rfl
          | succ c' ih =>
            intro f hc
            unfold m_nx
            split
            · exact kup_ne (by omega)
            · rw [ih (by omega)]; exact kup_ne (by omega)
        rw [k (Nat.le_refl _), k (Nat.le_refl _), kup_eq, kup_eq]
      · exact q.2 p (by omega)
theorem m_nx_lt {K : Int} (hK : K ≤ 3) : ∀ {c : Nat} {f : Nat → Int}, kLt f → kLt (m_nx K c f).2
  | 0, f, h => h
  | c + 1, f, h => by
    unfold m_nx
    split
    · exact kLt_up h (by have := h c; omega)
    · exact m_nx_lt hK (kLt_up h (by decide))
theorem m_nx_rw {K : Int} {c n : Nat} {f : Nat → Int} (hK : 1 ≤ K ∧ K ≤ 3) (hc : 1 ≤ c ∧ c ≤ 4) (hn : n < m_pw K c) (h : ∀ p, p < c → f p = m_rw K c n p) : ((m_nx K c f).1 = true ↔ n + 1 < m_pw K c) ∧ (n + 1 < m_pw K c → ∀ p, p < c → (m_nx K c f).2 p = m_rw K c (n + 1) p) := by
  have q := m_nx_cg (K := K) h
  have hp := m_pw_le hK hc.2
  rw [q.1]
  obtain ⟨k, rfl⟩ : ∃ k : Nat, K = k := ⟨K.toNat, by omega⟩
  have key : ∀ (k : Fin 4) (c : Fin 5) (n : Fin 81), 1 ≤ k.val → 1 ≤ c.val → n.val < m_pw (k.val : Int) c.val → ((m_nx (k.val : Int) c.val (m_rw (k.val : Int) c.val n.val)).1 = true ↔ n.val + 1 < m_pw (k.val : Int) c.val) ∧ (n.val + 1 < m_pw (k.val : Int) c.val → ∀ p : Fin 4, p.val < c.val → (m_nx (k.val : Int) c.val (m_rw (k.val : Int) c.val n.val)).2 p.val = m_rw (k.val : Int) c.val (n.val + 1) p.val) := by unfold m_pw; decide +kernel
  have r := key ⟨k, by omega⟩ ⟨c, by omega⟩ ⟨n, by omega⟩ (by show 1 ≤ k; omega) hc.1 hn
  exact ⟨r.1, fun h2 p hp2 => (q.2 p hp2).trans (r.2 h2 ⟨p, by omega⟩ hp2)⟩
theorem m_rw_0 {K : Int} {c p : Nat} (hK : 1 ≤ K) (hp : p < c) : m_rw K c 0 p = 0 := by
  unfold m_rw
  rw [if_pos hp, Nat.zero_div, Nat.zero_mod]
  rfl
/-- whether the row with a number has several trees -/
def m_am (g : Nat → Nat → Int) (nr : Nat) (K : Int) (c n : Nat) : Prop := 1 < m_TT g nr (m_rw K c n) 10 0 ((c : Int) - 1)
/-- the first row with several trees: its length and number -/
def m_ar (g : Nat → Nat → Int) (nr : Nat) (K L : Int) (c n : Nat) : Prop := (1 ≤ c ∧ (c : Int) ≤ L) ∧ n < m_pw K c ∧ m_am g nr K c n ∧ (∀ m, m < n → ¬ m_am g nr K c m) ∧ ∀ c' m, 1 ≤ c' → c' < c → m < m_pw K c' → ¬ m_am g nr K c' m
def m_an (g : Nat → Nat → Int) (nr : Nat) (K L : Int) : Prop := ∀ c m : Nat, 1 ≤ c → (c : Int) ≤ L → m < m_pw K c → ¬ m_am g nr K c m
theorem m_ar_uq {g : Nat → Nat → Int} {nr : Nat} {K L : Int} {c n c' n' : Nat} (h : m_ar g nr K L c n) (h' : m_ar g nr K L c' n') : c = c' ∧ n = n' := by
  obtain ⟨a1, a2, a3, a4, a5⟩ := h
  obtain ⟨b1, b2, b3, b4, b5⟩ := h'
  have e : c = c' := by
    rcases Nat.lt_trichotomy c c' with q | q | q
    · exact absurd a3 (b5 c n a1.1 q a2)
    · exact q
    · exact absurd b3 (a5 c' n' b1.1 q b2)
  subst e
  refine ⟨rfl, ?_⟩
  rcases Nat.lt_trichotomy n n' with q | q | q
  · exact absurd a3 (b4 n q)
  · exact q
  · exact absurd b3 (a4 n' q)
theorem m_ar_an {g : Nat → Nat → Int} {nr : Nat} {K L : Int} {c n : Nat} (h : m_ar g nr K L c n) (h' : m_an g nr K L) : False := h' c n h.1.1 h.1.2 h.2.1 h.2.2.1
