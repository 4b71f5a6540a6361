/-! THE WALK'S END; counts over the texts; the state between two calls. Mine. -/
theorem m_si_ext {f : Nat → Int} {c : Nat} (h : ∀ p, c ≤ p → f p = 0) : ∀ n : Nat, c ≤ n → m_si f n = m_si f c
  | 0, hn => by rw [show c = 0 by omega]
  | n + 1, hn => by
    by_cases e : c = n + 1
    · rw [e]
    · show m_si f n + f n = m_si f c
      rw [m_si_ext h n (by omega), h n (by omega)]; omega
theorem m_fl_z {p : Int} {x : Nat} : m_fl (fun _ => 0) 0 p x = 0 := by unfold m_fl; split <;> rfl
theorem m_si_z {f : Nat → Int} (h : ∀ p, f p = 0) : ∀ n : Nat, m_si f n = 0
  | 0 => rfl
  | n + 1 => by show m_si f n + f n = 0; rw [m_si_z h n, h n]; rfl
theorem kWR.lt {O : kO} {lt lt' : Nat → Int} {i b tm : Int} {tr sh sg : Nat → Int} {sm : Int} (h : kWR O lt i b tm tr sh sg sm) (hrow : ∀ p : Nat, (p : Int) < i → lt p = lt' p) : kWR O lt' i b tm tr sh sg sm := by
  obtain ⟨b1, b2, b3, b4, b5, b6⟩ := h
  exact ⟨b1, b2, fun q hq => by rw [← hrow q hq]; exact b3 q hq, b4, b5, b6⟩
theorem kWR_0 {lt : Nat → Int} {tr sh sg : Nat → Int} : kWR (m_ow kO0) lt 0 ((m_ow kO0).2.2.2.1 (0 : Int).toNat) 0 tr sh sg 0 := by
  have e : (m_ow kO0).2.2.2.1 (0 : Int).toNat = 0 := by show m_fl (fun _ => 0) 0 ((10 : Nat) : Int) (0 : Int).toNat = 0; exact m_fl_z (p := ((10 : Nat) : Int))
  rw [e]
  refine ⟨⟨rfl, Int.le_refl 0, fun p hp => ?_⟩, rfl, fun q hq => by omega, fun q hq => by omega, fun x x1 x2 => ?_, fun q hq => by omega⟩
  · have : (p : Int) < 0 := hp
    omega
  · have : (0 : Int) + 0 ≤ x := x1
    omega
/-- what the Model shows of a text's chosen tree -/
def kSw (A : kO) (lt : Nat → Int) (c : Int) (tm : Int) (tr sh sg : Nat → Int) (sm dp : Int) : Prop :=
  (tm = A.1 ∧ (0 ≤ A.1 ∧ A.1 ≤ 95) ∧ ∀ p : Nat, (p : Int) < A.1 → tr p = A.2.1 p) ∧ dp = A.2.2.2.2.1 ∧ sm = m_ns A ∧ (∀ p : Nat, (p : Int) < c → sh p = A.2.2.1 p) ∧ ∀ x : Int, 0 ≤ x → x < sm → sg x.toNat = m_sg A.2.2.2.1 lt x 10 0 0
theorem kOi_0 : kOi (m_ow kO0) := by
  refine ⟨fun p => ?_, fun p => ?_, ⟨Int.le_refl 0, by decide⟩, fun p => ⟨Int.le_refl 0, by show (0 : Int) < 12; decide⟩⟩
  · show 0 ≤ m_fl (fun _ => 0) 0 ((10 : Nat) : Int) p ∧ m_fl (fun _ => 0) 0 ((10 : Nat) : Int) p ≤ 9
    rw [m_fl_z]; decide
  · show 0 ≤ m_fl (fun _ => 0) 0 ((10 : Nat) : Int) p ∧ m_fl (fun _ => 0) 0 ((10 : Nat) : Int) p ≤ 3
    rw [m_fl_z]; decide
theorem kSw.run {g : Nat → Nat → Int} {nr : Nat} {rx lt : Nat → Int} {c tm : Int} {tr sh sg : Nat → Int} {sm : Int} (hwf : kWf g nr) (hnr : nr ≤ 12) (hc : 1 ≤ c ∧ c ≤ 10) (hrow : ∀ p : Nat, (p : Int) < c → rx p = lt p) (hp : 0 < m_TT g nr rx 10 0 (c - 1))
    (h : kWR (m_run g nr rx 100 10 0 (c - 1) 0 (m_ow kO0)) rx (c - 1 + 1) 0 tm tr sh sg sm) : kSw (m_lay g nr lt c kO0) lt c tm tr sh sg sm (m_run g nr rx 100 10 0 (c - 1) 0 (m_ow kO0)).2.2.2.2.1 := by
  have e : m_lay g nr lt c kO0 = m_run g nr rx 100 10 0 (c - 1) 0 (m_ow kO0) := by
    rw [← m_lay_row hwf hc hrow]; unfold m_lay; rw [if_pos hp]
  have hcnt := m_lay_cnt (lt := lt) (O := kO0) hwf hc
  obtain ⟨h1, h2, h3, h4, h5, h6, _⟩ := m_lay_sc hc hp
  obtain ⟨f1, _⟩ := m_run_fr hwf 100 10 0 (c - 1) 0 (m_ow kO0) h1 (by omega) h2 h3 h4 h5
  have hpl : 0 < m_TT g nr lt 10 0 (c - 1) := by rw [← m_TT_row (by omega) (fun p q1 q2 => hrow p.toNat (by omega))]; exact hp
  rw [if_pos hpl] at hcnt
  rw [show c - 1 + 1 = c by omega] at h
  have h' := h.lt hrow
  rw [e] at hcnt ⊢
  generalize m_run g nr rx 100 10 0 (c - 1) 0 (m_ow kO0) = R at *
  obtain ⟨b1, b2, b3, b4, b5, b6⟩ := h
  have hz : ∀ p : Nat, c.toNat ≤ p → R.2.2.2.1 p = 0 := fun p hp2 => (f1 p (by omega)).trans (m_fl_z)
  refine ⟨⟨b1.1, by omega, b1.2.2⟩, rfl, ?_, b6, fun x x0 x1 => ?_⟩
  · unfold m_ns
    rw [m_si_ext hz 10 (by omega)]; omega
  · have := h'.signs (by omega) x1 c.toNat 0 (by omega) (Int.le_refl 0) (by show (0 : Int) + m_si R.2.2.2.1 0 ≤ x; unfold m_si; omega)
    exact this
theorem kSw.none {g : Nat → Nat → Int} {nr : Nat} {lt : Nat → Int} {c : Int} {tr sg sh : Nat → Int} (hc : 1 ≤ c ∧ c ≤ 10) (hp : ¬ 0 < m_TT g nr lt 10 0 (c - 1)) (hsh : ∀ p : Nat, (p : Int) < 10 → sh p = 0) : kSw (m_lay g nr lt c kO0) lt c 0 tr sh sg 0 0 := by
  have e : m_lay g nr lt c kO0 = m_ow kO0 := by unfold m_lay; rw [if_neg hp]
  rw [e]
  refine ⟨⟨rfl, ⟨Int.le_refl 0, by decide⟩, fun p hp2 => ?_⟩, rfl, ?_, fun p hp2 => ?_, fun x x0 x1 => by omega⟩
  · have : (p : Int) < 0 := hp2
    omega
  · unfold m_ns
    show 0 = 0 + m_si (m_fl (fun _ => 0) 0 ((10 : Nat) : Int)) 10
    rw [m_si_z (fun p => m_fl_z)]; rfl
  · rw [hsh p (by omega)]
    exact (m_fl_z).symm
/-- there is a tree just where there is a rule -/
theorem m_lay_one {g : Nat → Nat → Int} {nr : Nat} {lt : Nat → Int} {c : Int} (hwf : kWf g nr) (hc : 1 ≤ c ∧ c ≤ 10) : m_TT g nr lt 10 0 (c - 1) = 0 ↔ (m_lay g nr lt c kO0).1 = 0 := by
  constructor
  · intro h
    unfold m_lay
    rw [if_neg (by omega)]
    rfl
  · intro h
    rcases Nat.eq_zero_or_pos (m_TT g nr lt 10 0 (c - 1)) with q | hp
    · exact q
    · exfalso
      unfold m_lay at h
      rw [if_pos hp] at h
      obtain ⟨h1, h2, h3, h4, h5, h6, h7⟩ := m_lay_sc hc hp
      obtain ⟨r, k, l, r1, r2, r3, r4, r5, r6, r7, r8, r9⟩ := m_nod hwf (s := 10) (i := 0) (j := c - 1) (by decide) h2 h3 hp
      rw [m_run_N (d := 99) (by decide) r2 r3 r4] at h
      obtain ⟨c1, _⟩ := m_gs_cnt (g := g) (r := r) (k := k) (l := l) (O := m_lr g r 0 (c - 1) (m_ow kO0))
      have c1' : (m_gs g r k l (m_lr g r 0 (c - 1) (m_ow kO0))).1 = 0 + 1 := c1
      have hM := m_M_N (s := 10) (i := 0) (j := c - 1) (by decide)
      unfold m_nd at h
      generalize m_gs g r k l (m_lr g r 0 (c - 1) (m_ow kO0)) = O1 at *
      rcases r9 with ⟨a1, a2, a3, a4, a5, a6, a7⟩ | ⟨a1, a2, a3, a4, a5, a6, a7, a8⟩ | ⟨a1, a2, a3, a4, a5, a6, a7, a8, a9⟩
      · rw [if_pos a1] at h
        have hm := m_M_1 (s := 10) (i := 0) (j := c - 1) (by decide) a5 h2 a6
        subst a3
        have b1 := m_run_cnt hwf 99 (g 2 r) 0 (c - 1) (0 + 1) O1 a5 h2 h3 a7 (by omega)
        omega
      · rw [if_neg (m_sym1 a1), if_pos a2] at h
        have rr1 := m_M_rg a6 a3
        have rr2 := m_M_rg (i := k + 1) (j := c - 1) a1 (by omega)
        subst a5
        have b1 := m_run_cnt hwf 99 (g 2 r) 0 k (0 + 1) O1 a6 a3 (by omega) a7 (by omega)
        have b2 := m_run_cnt hwf 99 (g 3 r) (k + 1) (c - 1) (0 + 1) (m_run g nr lt 99 (g 2 r) 0 k (0 + 1) O1) a1 (by omega) (by omega) a8 (by omega)
        omega
      · rw [if_neg (m_sym1 a1), if_neg (m_sym1 a2)] at h
        have rr1 := m_M_rg a6 a3
        have rr2 := m_M_rg (i := k + 1) (j := l) a1 (by omega)
        have rr3 := m_M_rg (i := l + 1) (j := c - 1) a2 (by omega)
        have b1 := m_run_cnt hwf 99 (g 2 r) 0 k (0 + 1) O1 a6 a3 (by omega) a7 (by omega)
        have b2 := m_run_cnt hwf 99 (g 3 r) (k + 1) l (0 + 1) (m_run g nr lt 99 (g 2 r) 0 k (0 + 1) O1) a1 (by omega) (by omega) a8 (by omega)
        have b3 := m_run_cnt hwf 99 (g 4 r) (l + 1) (c - 1) (0 + 1) (m_run g nr lt 99 (g 3 r) (k + 1) l (0 + 1) (m_run g nr lt 99 (g 2 r) 0 k (0 + 1) O1)) a2 (by omega) (by omega) a9 (by omega)
        omega
/-- the letters of a rule's first symbols stand there -/
def m_hk (lt : Nat → Int) (c : Int) (g : Nat → Nat → Int) (r k : Nat) : Prop := ∀ x : Nat, x < k → m_st lt c (g (2 + x) r)
theorem m_hk_0 {lt : Nat → Int} {c : Int} {g : Nat → Nat → Int} {r : Nat} : m_hk lt c g r 0 := fun x hx => by omega
theorem m_hk_s {lt : Nat → Int} {c : Int} {g : Nat → Nat → Int} {r k : Nat} : m_hk lt c g r (k + 1) ↔ m_hk lt c g r k ∧ m_st lt c (g (2 + k) r) := by
  constructor
  · intro h
    exact ⟨fun x hx => h x (by omega), h k (by omega)⟩
  · rintro ⟨h1, h2⟩ x hx
    by_cases e : x = k
    · rw [e]; exact h2
    · exact h1 x (by omega)
theorem m_st_iff {lt : Nat → Int} {c s : Int} (hs : m_isS s) : m_st lt c s ↔ (m_isN s ∨ ∃ q : Nat, (q : Int) < c ∧ lt q = s) := by
  unfold m_st
  constructor
  · intro h
    rcases hs with hs | hs
    · exact Or.inr (h hs)
    · exact Or.inl hs
  · rintro (h | h) hL
    · omega
    · exact h
theorem m_hk_has {lt : Nat → Int} {c : Int} {g : Nat → Nat → Int} {r : Nat} {m : Int} (hm : (m = 1 ∧ g 3 r = -1 ∧ g 4 r = -1) ∨ (m = 2 ∧ m_isS (g 3 r) ∧ g 4 r = -1) ∨ (m = 3 ∧ m_isS (g 3 r) ∧ m_isS (g 4 r))) : m_hk lt c g r m.toNat ↔ m_has lt c g r := by
  have no : ∀ s : Int, s = -1 → m_st lt c s := fun s e hL => by omega
  unfold m_has
  rcases hm with ⟨e, e3, e4⟩ | ⟨e, e3, e4⟩ | ⟨e, e3, e4⟩
  · subst e
    show m_hk lt c g r 1 ↔ _
    rw [m_hk_s]
    exact ⟨fun h => ⟨h.2, no _ e3, no _ e4⟩, fun h => ⟨m_hk_0, h.1⟩⟩
  · subst e
    show m_hk lt c g r 2 ↔ _
    rw [m_hk_s, m_hk_s]
    exact ⟨fun h => ⟨h.1.2, h.2, no _ e4⟩, fun h => ⟨⟨m_hk_0, h.1⟩, h.2.1⟩⟩
  · subst e
    show m_hk lt c g r 3 ↔ _
    rw [m_hk_s, m_hk_s, m_hk_s]
    exact ⟨fun h => ⟨h.1.1.2, h.1.2, h.2⟩, fun h => ⟨⟨⟨m_hk_0, h.1⟩, h.2.1⟩, h.2.2⟩⟩
theorem m_sy {g : Nat → Nat → Int} {r k : Nat} {m : Int} (hw : m_wf g r) (hm : (m = 1 ∧ g 3 r = -1 ∧ g 4 r = -1) ∨ (m = 2 ∧ m_isS (g 3 r) ∧ g 4 r = -1) ∨ (m = 3 ∧ m_isS (g 3 r) ∧ m_isS (g 4 r))) (hk : (k : Int) < m) : m_isS (g (2 + k) r) := by
  have h2 := hw.2.1
  rcases hm with ⟨e, e3, e4⟩ | ⟨e, e3, e4⟩ | ⟨e, e3, e4⟩
  · have : k = 0 := by omega
    subst this; exact h2
  · have : k = 0 ∨ k = 1 := by omega
    rcases this with rfl | rfl
    · exact h2
    · exact e3
  · have : k = 0 ∨ k = 1 ∨ k = 2 := by omega
    rcases this with rfl | rfl | rfl
    · exact h2
    · exact e3
    · exact e4
theorem m_ex_s {lt : Nat → Int} {p s : Int} {Q : Prop} (hp : 0 ≤ p) : (Q ∨ ∃ q : Nat, (q : Int) < p + 1 ∧ lt q = s) ↔ ((Q ∨ ∃ q : Nat, (q : Int) < p ∧ lt q = s) ∨ lt p.toNat = s) := by
  constructor
  · rintro (h | ⟨q, h1, h2⟩)
    · exact Or.inl (Or.inl h)
    · by_cases e : (q : Int) < p
      · exact Or.inl (Or.inr ⟨q, e, h2⟩)
      · rw [show q = p.toNat by omega] at h2; exact Or.inr h2
  · rintro ((h | ⟨q, h1, h2⟩) | h)
    · exact Or.inl h
    · exact Or.inr ⟨q, by omega, h2⟩
    · exact Or.inr ⟨p.toNat, by omega, h⟩
theorem m_tc_T {P : Nat → Prop} {T : Nat} : ∀ n : Nat, T ≤ n → m_tc (fun t => t < T ∧ P t) n = m_tc P T
  | 0, h => by rw [show T = 0 by omega]; rfl
  | n + 1, h => by
    by_cases e : T = n + 1
    · subst e
      have key : ∀ k : Nat, k ≤ n + 1 → m_tc (fun t => t < n + 1 ∧ P t) k = m_tc P k := by
        intro k
        induction k with
        | zero => intro _; rfl
        | succ k ih =>
          intro hk
          show m_tc (fun t => t < n + 1 ∧ P t) k + bI (k < n + 1 ∧ P k) = m_tc P k + bI (P k)
          rw [ih (by omega), bI_iff (show (k < n + 1 ∧ P k) ↔ P k from ⟨fun q => q.2, fun q => ⟨by omega, q⟩⟩)]
      exact key (n + 1) (Nat.le_refl _)
    · show m_tc (fun t => t < T ∧ P t) n + bI (n < T ∧ P n) = _
      rw [m_tc_T n (by omega), bI_f (fun q => by omega), Int.add_zero]
theorem m_tf_T {P : Nat → Prop} {f : Nat → Int} {T : Nat} : ∀ n : Nat, T ≤ n → m_tf (fun t => t < T ∧ P t) f n = m_tf P f T
  | 0, h => by rw [show T = 0 by omega]; rfl
  | n + 1, h => by
    by_cases e : T = n + 1
    · subst e
      have key : ∀ k : Nat, k ≤ n + 1 → m_tf (fun t => t < n + 1 ∧ P t) f k = m_tf P f k := by
        intro k
        induction k with
        | zero => intro _; rfl
        | succ k ih =>
          intro hk
          show m_tf (fun t => t < n + 1 ∧ P t) f k + _ = m_tf P f k + _
          rw [ih (by omega)]
          by_cases q : P k
          · rw [if_pos q, if_pos ⟨by omega, q⟩]
          · rw [if_neg q, if_neg (fun z => q z.2)]
      exact key (n + 1) (Nat.le_refl _)
    · show m_tf (fun t => t < T ∧ P t) f n + _ = _
      rw [m_tf_T n (by omega), if_neg (fun q => by omega), Int.add_zero]
theorem m_tf_T1 {f : Nat → Int} {T n : Nat} (h : T ≤ n) : m_tf (fun t => t < T) f n = m_tf (fun _ => True) f T := by
  rw [← m_tf_T (P := fun _ => True) n h]
  congr 1
  funext t
  exact propext ⟨fun q => ⟨q, trivial⟩, fun q => q.1⟩
section KLV
variable {E : kE} {X : kX} {nL k n pc : Nat} {w : kW} {lv lv' : List (Nat × Value)} {st : List Value}
theorem k_lv (e : lv = lv') (kk : kG E X nL k n w pc lv' st) : kG E X nL k n w pc lv st := e ▸ kk
end KLV
/-- the Model between two calls -/
def kMu (w : kW) (bd : Nat → Nat) (nr : Nat) (g : Nat → Nat → Int) (T : Nat) (lts : Nat → Nat → Int) (cs : Nat → Int) (acs : Nat → Nat → Int) (ams : Nat → Int) (rel fnd th : Int) : Prop :=
  ∃ (ltA acA mnA : Nat → Int) (sz : Int) (rx : Nat → Int) (N : Nat → Nat) (tm : Int) (tr sh sg : Nat → Int) (sm dp : Int), kMd w bd nr g T cs ams ltA acA mnA rel fnd sz rx N tm tr sh sg sm dp th ∧ kMi nr g T lts cs acs ams ltA acA mnA ∧ kLt rx ∧ ∀ x, N x ≤ 1000
def kMv (w w2 : kW) (bd : Nat → Nat) (nr : Nat) (g : Nat → Nat → Int) (T : Nat) (lts : Nat → Nat → Int) (cs : Nat → Int) (acs : Nat → Nat → Int) (ams : Nat → Int) (rel fnd th : Int) : Prop :=
  kMu w2 bd nr g T lts cs acs ams rel fnd th ∧ kEx w w2 kMk
