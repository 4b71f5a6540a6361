/-! PURE AND STATE: runs side by side; rules and texts that come or change. Mine. -/
theorem m_run_rel {g : Nat → Nat → Int} {nr : Nat} {lt : Nat → Int} (hwf : kWf g nr) {R : kO → kO → Prop} (hle : ∀ (O O' : kO) (L : Int), R O O' → R (m_le O L) (m_le O' L)) (hlr : ∀ (O O' : kO) (r : Nat) (i j : Int), r < nr → R O O' → R (m_lr g r i j O) (m_lr g r i j O')) (hgp : ∀ (O O' : kO) (p v : Int), R O O' → R (m_gp O p v) (m_gp O' p v)) :
    ∀ (d : Nat) (s i j L : Int) (O O' : kO), m_isS s → i ≤ j → j - i < 10 → 0 < m_part (m_TT g nr lt) lt s i j → m_M s i j < (d : Int) → R O O' → R (m_run g nr lt d s i j L O) (m_run g nr lt d s i j L O')
  | 0, s, i, j, L, O, O', hs, hij, _, _, hd, _ => by have := m_M_rg hs hij; omega
  | d + 1, s, i, j, L, O, O', hs, hij, hw, hp, hd, hO => by
    rcases hs with hs | hs
    · rw [m_run_L hs, m_run_L hs]
      exact hle O O' L hO
    · rw [m_part_N hs] at hp
      obtain ⟨r, k, l, h1, h2, h3, h4, h5, h6, h7, h8, h9⟩ := m_nod hwf hs hij hw hp
      rw [m_run_N hs h2 h3 h4, m_run_N hs h2 h3 h4]
      have hM := m_M_N (s := s) (i := i) (j := j) hs
      have hO1 : R (m_gs g r k l (m_lr g r i j O)) (m_gs g r k l (m_lr g r i j O')) := by
        unfold m_gs
        split
        · exact hlr O O' r i j h1 hO
        · split
          · exact hgp _ _ _ _ (hlr O O' r i j h1 hO)
          · exact hgp _ _ _ _ (hgp _ _ _ _ (hlr O O' r i j h1 hO))
      unfold m_nd
      generalize m_gs g r k l (m_lr g r i j O) = O1 at *
      generalize m_gs g r k l (m_lr g r i j O') = O2 at *
      rcases h9 with ⟨a1, a2, a3, a4, a5, a6, a7⟩ | ⟨a1, a2, a3, a4, a5, a6, a7, a8⟩ | ⟨a1, a2, a3, a4, a5, a6, a7, a8, a9⟩
      · rw [if_pos a1, if_pos a1]
        have hm := m_M_1 hs a5 hij a6
        subst a3
        exact m_run_rel hwf hle hlr hgp d (g 2 r) i k (L + 1) O1 O2 a5 hij hw a7 (by omega) hO1
      · rw [if_neg (m_sym1 a1), if_pos a2, if_neg (m_sym1 a1), if_pos a2]
        have r1 := m_M_rg a6 a3
        have r2 := m_M_rg (i := k + 1) (j := l) a1 (by omega)
        subst a5
        have b1 := m_run_rel hwf hle hlr hgp d (g 2 r) i k (L + 1) O1 O2 a6 a3 (by omega) a7 (by omega) hO1
        exact m_run_rel hwf hle hlr hgp d (g 3 r) (k + 1) l (L + 1) _ _ a1 (by omega) (by omega) a8 (by omega) b1
      · rw [if_neg (m_sym1 a1), if_neg (m_sym1 a2), if_neg (m_sym1 a1), if_neg (m_sym1 a2)]
        have r1 := m_M_rg a6 a3
        have r2 := m_M_rg (i := k + 1) (j := l) a1 (by omega)
        have r3 := m_M_rg (i := l + 1) (j := j) a2 (by omega)
        have b1 := m_run_rel hwf hle hlr hgp d (g 2 r) i k (L + 1) O1 O2 a6 a3 (by omega) a7 (by omega) hO1
        have b2 := m_run_rel hwf hle hlr hgp d (g 3 r) (k + 1) l (L + 1) _ _ a1 (by omega) (by omega) a8 (by omega) b1
        exact m_run_rel hwf hle hlr hgp d (g 4 r) (l + 1) j (L + 1) _ _ a2 (by omega) (by omega) a9 (by omega) b2
/-- layouts that show the same -/
def m_oe (O O' : kO) : Prop := (O.1 = O'.1 ∧ 0 ≤ O.1) ∧ (∀ p : Nat, (p : Int) < O.1 → O.2.1 p = O'.2.1 p) ∧ (∀ p, p < 10 → O.2.2.1 p = O'.2.2.1 p) ∧ (∀ p, p < 10 → O.2.2.2.1 p = O'.2.2.2.1 p) ∧ O.2.2.2.2 = O'.2.2.2.2
theorem m_oe_le {O O' : kO} {L : Int} (h : m_oe O O') : m_oe (m_le O L) (m_le O' L) := by
  obtain ⟨a, b, c, d, e⟩ := h
  refine ⟨a, b, c, d, ?_⟩
  show ((if O.2.2.2.2.1 < L then L else O.2.2.2.2.1), O.2.2.2.2.2 + 1) = ((if O'.2.2.2.2.1 < L then L else O'.2.2.2.2.1), O'.2.2.2.2.2 + 1)
  rw [e]
theorem m_oe_lr {g : Nat → Nat → Int} {r : Nat} {i j : Int} {O O' : kO} (h : m_oe O O') : m_oe (m_lr g r i j O) (m_lr g r i j O') := by
  obtain ⟨⟨a, a2⟩, b, c, d, e⟩ := h
  refine ⟨⟨?_, ?_⟩, ?_, ?_, d, e⟩
  · show O.1 + 1 = O'.1 + 1
    rw [a]
  · show 0 ≤ O.1 + 1
    omega
  · intro p hp
    have hp' : (p : Int) < O.1 + 1 := hp
    show kup O.2.1 O.1.toNat (r : Int) p = kup O'.2.1 O'.1.toNat (r : Int) p
    rw [← a]
    unfold kup
    split
    · rfl
    · exact b p (by omega)
  · intro p hp
    show (if g 6 r = 0 then O.2.2.1 else m_col O.2.2.1 i j (g 6 r)) p = (if g 6 r = 0 then O'.2.2.1 else m_col O'.2.2.1 i j (g 6 r)) p
    split
    · exact c p hp
    · unfold m_col
      split
      · rfl
      · exact c p hp
theorem m_oe_gp {O O' : kO} {p v : Int} (h : m_oe O O') : m_oe (m_gp O p v) (m_gp O' p v) := by
  obtain ⟨a, b, c, d, e⟩ := h
  refine ⟨a, b, c, fun x hx => ?_, e⟩
  show kup O.2.2.2.1 p.toNat v x = kup O'.2.2.2.1 p.toNat v x
  unfold kup
  split
  · rfl
  · exact d x hx
theorem m_oe_ow {O O' : kO} : m_oe (m_ow O) (m_ow O') := by
  refine ⟨⟨rfl, Int.le_refl 0⟩, fun p hp => ?_, fun p hp => ?_, fun p hp => ?_, rfl⟩
  · have : (p : Int) < 0 := hp
    omega
  · show m_fl O.2.2.1 0 ((10 : Nat) : Int) p = m_fl O'.2.2.1 0 ((10 : Nat) : Int) p
    unfold m_fl
    rw [if_pos (by omega), if_pos (by omega)]
  · show m_fl O.2.2.2.1 0 ((10 : Nat) : Int) p = m_fl O'.2.2.2.1 0 ((10 : Nat) : Int) p
    unfold m_fl
    rw [if_pos (by omega), if_pos (by omega)]
/-- what a layout shows is the text's alone -/
theorem m_oe_lay {g : Nat → Nat → Int} {nr : Nat} {lt : Nat → Int} {c : Int} (O O' : kO) (hwf : kWf g nr) (hc : 1 ≤ c ∧ c ≤ 10) : m_oe (m_lay g nr lt c O) (m_lay g nr lt c O') := by
  unfold m_lay
  by_cases hp : 0 < m_TT g nr lt 10 0 (c - 1)
  · rw [if_pos hp, if_pos hp]
    obtain ⟨h1, h2, h3, h4, h5, h6, _⟩ := m_lay_sc hc hp
    exact m_run_rel hwf (R := m_oe) (fun O O' L h => m_oe_le h) (fun O O' r i j _ h => m_oe_lr h) (fun O O' p v h => m_oe_gp h) 100 10 0 (c - 1) 0 _ _ h1 h2 h3 h4 h5 m_oe_ow
  · rw [if_neg hp, if_neg hp]
    exact m_oe_ow
theorem m_si_cg {f f' : Nat → Int} : ∀ {n : Nat}, (∀ p, p < n → f p = f' p) → m_si f n = m_si f' n
  | 0, _ => rfl
  | n + 1, h => by
    show m_si f n + f n = m_si f' n + f' n
    rw [m_si_cg (n := n) (fun p hp => h p (by omega)), h n (by omega)]
theorem m_oe_ns {O O' : kO} (h : m_oe O O') : m_ns O = m_ns O' := by
  unfold m_ns
  rw [m_si_cg h.2.2.2.1, show O.2.2.2.2.2 = O'.2.2.2.2.2 from congrArg (fun q => q.2) h.2.2.2.2]
theorem m_sg_cg {ga ga' lt : Nat → Int} {x : Int} : ∀ {n p : Nat} {y : Int}, (∀ q, q < p + n → ga q = ga' q) → m_sg ga lt x n p y = m_sg ga' lt x n p y
  | 0, _, _, _ => rfl
  | n + 1, p, y, h => by
    unfold m_sg
    rw [h p (by omega)]
    split
    · rfl
    · split
      · rfl
      · exact m_sg_cg (fun q hq => h q (by omega))
abbrev kO0 : kO := (0, fun _ => 0, fun _ => 0, fun _ => 0, 0, 0)
/-- the sign that shows whether a text is clean -/
noncomputable def m_fv (g : Nat → Nat → Int) (nr : Nat) (lt : Nat → Int) (c : Int) (ac : Nat → Int) (am : Int) : Int :=
  if m_TT g nr lt 10 0 (c - 1) = 0 then 110 else if 1 < m_TT g nr lt 10 0 (c - 1) then 97 else if am = 0 then 117 else
    @ite _ ((m_lay g nr lt c kO0).1 = am ∧ ∀ p : Nat, (p : Int) < am → ac p = (m_lay g nr lt c kO0).2.1 p) (Classical.propDecidable _) 45 120
theorem m_fv_rg {g : Nat → Nat → Int} {nr : Nat} {lt : Nat → Int} {c : Int} {ac : Nat → Int} {am : Int} : 0 ≤ m_fv g nr lt c ac am ∧ m_fv g nr lt c ac am < 65536 := by
  unfold m_fv
  (repeat' split) <;> omega
theorem m_ok_oe {O O' : kO} {ac : Nat → Int} {am : Int} (h : m_oe O O') : (O.1 = am ∧ ∀ p : Nat, (p : Int) < am → ac p = O.2.1 p) ↔ (O'.1 = am ∧ ∀ p : Nat, (p : Int) < am → ac p = O'.2.1 p) := by
  obtain ⟨⟨a, _⟩, b, _⟩ := h
  constructor
  · rintro ⟨q, q2⟩
    exact ⟨by omega, fun p hp => (q2 p hp).trans (b p (by omega))⟩
  · rintro ⟨q, q2⟩
    exact ⟨by omega, fun p hp => (q2 p hp).trans (b p (by omega)).symm⟩
section KST2
variable {w w2 : kW} {ad : Nat → Nat} {nr : Nat} {g : Nat → Nat → Int} {T : Nat} {lts : Nat → Nat → Int} {cs : Nat → Int} {acs : Nat → Nat → Int} {ams : Nat → Int} {rel fnd : Int} {Ns : Nat → Nat → Nat}
/-- rules alone were written -/
theorem kSt.gr (h : kSt w ad nr g T lts cs acs ams rel fnd Ns) {nr2 : Nat} {g2 : Nat → Nat → Int} (hg : kGa w2 ad nr2 g2) (hw : kWf g2 nr2) (hx : kEx w w2 (fun x : Nat => x = 1 ∨ x = 2 ∨ (100 ≤ x ∧ x < 112))) : kSt w2 ad nr2 g2 T lts cs acs ams rel fnd Ns := by
  obtain ⟨a, b, c, d, e, f, i, j, k⟩ := h
  exact ⟨a.ex hx (by omega), hg, hw, d.ex hx (by omega), e.ex hx (fun x _ _ => by omega), f.ex hx (fun x _ _ => by omega), i.ex hx (by omega) (by omega), fun t ht => (j t ht).ex hx (fun x _ _ => by omega), k⟩
theorem kGa.rl (h : kGa w ad nr g) {f r : Nat} {v : Int} {c : kC} (hr : r < nr) (hc : c = kRl (m_up g f r v) r) : kGa (kset w (100 + r) (ad (100 + r)) c) ad nr (m_up g f r v) := by
  refine ⟨(kset_ne (by omega)).trans h.1, (kset_ne (by omega)).trans h.2.1, fun i hi => ?_, h.2.2.2⟩
  by_cases e : i = r
  · subst e; rw [hc]; exact kset_eq
  · rw [kRl_up e]; exact (kset_ne (by omega)).trans (h.2.2.1 i hi)
theorem kSt.rl (h : kSt w ad nr g T lts cs acs ams rel fnd Ns) {f r : Nat} {v : Int} {c : kC} (hr : r < nr) (hc : c = kRl (m_up g f r v) r) (hf : (f = 5 ∧ 0 ≤ v ∧ v ≤ 9) ∨ (f = 6 ∧ 0 ≤ v ∧ v ≤ 9) ∨ (f = 7 ∧ 0 ≤ v ∧ v ≤ 3) ∨ (f = 8 ∧ 0 ≤ v ∧ v ≤ 1)) : kSt (kset w (100 + r) (ad (100 + r)) c) ad nr (m_up g f r v) T lts cs acs ams rel fnd Ns := by
  have hnr := h.2.1.2.2.2
  exact h.gr (h.2.1.rl hr hc) (h.2.2.1.up hf) (kEx.kset (by omega))
theorem kSu.rl (h : kSu w ad nr g T lts cs acs ams rel fnd Ns) {f r : Nat} {v : Int} {c : kC} (hr : r < nr) (hc : c = kRl (m_up g f r v) r) (hf : (f = 5 ∧ 0 ≤ v ∧ v ≤ 9) ∨ (f = 6 ∧ 0 ≤ v ∧ v ≤ 9) ∨ (f = 7 ∧ 0 ≤ v ∧ v ≤ 3)) : kSu (kset w (100 + r) (ad (100 + r)) c) ad nr (m_up g f r v) T lts cs acs ams rel fnd Ns :=
  ⟨h.1.rl hr hc (by omega), fun t ht => (h.2 t ht).up (by omega)⟩
end KST2
theorem kRl_5 {g : Nat → Nat → Int} {r : Nat} {v : Int} : ob 4 [.int (iI (r : Int)), .int (iI (g 1 r)), .int (iI (g 2 r)), .int (iI (g 3 r)), .int (iI (g 4 r)), .int (iI v), .int (iI (g 6 r)), .int (iI (g 7 r)), .int (iI (g 8 r))] = kRl (m_up g 5 r v) r := by
  unfold kRl
  rw [m_up_eq, m_up_nf (by decide), m_up_nf (by decide), m_up_nf (by decide), m_up_nf (by decide), m_up_nf (by decide), m_up_nf (by decide), m_up_nf (by decide)]
theorem kRl_6 {g : Nat → Nat → Int} {r : Nat} {v : Int} : ob 4 [.int (iI (r : Int)), .int (iI (g 1 r)), .int (iI (g 2 r)), .int (iI (g 3 r)), .int (iI (g 4 r)), .int (iI (g 5 r)), .int (iI v), .int (iI (g 7 r)), .int (iI (g 8 r))] = kRl (m_up g 6 r v) r := by
  unfold kRl
  rw [m_up_eq, m_up_nf (by decide), m_up_nf (by decide), m_up_nf (by decide), m_up_nf (by decide), m_up_nf (by decide), m_up_nf (by decide), m_up_nf (by decide)]
theorem kRl_7 {g : Nat → Nat → Int} {r : Nat} {v : Int} : ob 4 [.int (iI (r : Int)), .int (iI (g 1 r)), .int (iI (g 2 r)), .int (iI (g 3 r)), .int (iI (g 4 r)), .int (iI (g 5 r)), .int (iI (g 6 r)), .int (iI v), .int (iI (g 8 r))] = kRl (m_up g 7 r v) r := by
  unfold kRl
  rw [m_up_eq, m_up_nf (by decide), m_up_nf (by decide), m_up_nf (by decide), m_up_nf (by decide), m_up_nf (by decide), m_up_nf (by decide), m_up_nf (by decide)]
theorem kRl_8 {g : Nat → Nat → Int} {r : Nat} {v : Int} : ob 4 [.int (iI (r : Int)), .int (iI (g 1 r)), .int (iI (g 2 r)), .int (iI (g 3 r)), .int (iI (g 4 r)), .int (iI (g 5 r)), .int (iI (g 6 r)), .int (iI (g 7 r)), .int (iI v)] = kRl (m_up g 8 r v) r := by
  unfold kRl
  rw [m_up_eq, m_up_nf (by decide), m_up_nf (by decide), m_up_nf (by decide), m_up_nf (by decide), m_up_nf (by decide), m_up_nf (by decide), m_up_nf (by decide)]
theorem kRl_67 {g : Nat → Nat → Int} {r : Nat} {u v : Int} : ob 4 [.int (iI (r : Int)), .int (iI (g 1 r)), .int (iI (g 2 r)), .int (iI (g 3 r)), .int (iI (g 4 r)), .int (iI (g 5 r)), .int (iI u), .int (iI v), .int (iI (g 8 r))] = kRl (m_up (m_up g 6 r u) 7 r v) r := by
  rw [← kRl_7, m_up_eq, m_up_nf (by decide), m_up_nf (by decide), m_up_nf (by decide), m_up_nf (by decide), m_up_nf (by decide), m_up_nf (by decide)]
theorem m_tc_t {P : Nat → Prop} {y : Int} (h0 : 0 ≤ y) (h : P y.toNat) : m_tc P (y + 1).toNat = m_tc P y.toNat + 1 := by
  rw [show (y + 1).toNat = y.toNat + 1 by omega]
  show m_tc P y.toNat + bI (P y.toNat) = _
  rw [bI_t h]
theorem m_tc_f {P : Nat → Prop} {y : Int} (h0 : 0 ≤ y) (h : ¬ P y.toNat) : m_tc P (y + 1).toNat = m_tc P y.toNat := by
  rw [show (y + 1).toNat = y.toNat + 1 by omega]
  show m_tc P y.toNat + bI (P y.toNat) = _
  rw [bI_f h, Int.add_zero]
theorem m_tf_t {P : Nat → Prop} {f : Nat → Int} {y : Int} (h0 : 0 ≤ y) (h : P y.toNat) : m_tf P f (y + 1).toNat = m_tf P f y.toNat + f y.toNat := by
  rw [show (y + 1).toNat = y.toNat + 1 by omega]
  show m_tf P f y.toNat + _ = _
  rw [if_pos h]
theorem m_tf_f {P : Nat → Prop} {f : Nat → Int} {y : Int} (h0 : 0 ≤ y) (h : ¬ P y.toNat) : m_tf P f (y + 1).toNat = m_tf P f y.toNat := by
  rw [show (y + 1).toNat = y.toNat + 1 by omega]
  show m_tf P f y.toNat + _ = _
  rw [if_neg h, Int.add_zero]
theorem m_has_up {g : Nat → Nat → Int} {r : Nat} {v : Int} {lt : Nat → Int} {c : Int} : m_has lt c (m_up g 8 r v) r = m_has lt c g r := by
  unfold m_has
  rw [m_up_nf (by decide), m_up_nf (by decide), m_up_nf (by decide)]
theorem kTx.num {w : kW} {ad : Nat → Nat} {t : Nat} {lt : Nat → Int} {N N2 : Nat → Nat} {c : Int} {ac : Nat → Int} {am : Int} (h : kTx w ad t lt N c ac am) : kTx (kset w (200 + 5 * t + 3) (ad (200 + 5 * t + 3)) (kNm N2)) ad t lt N2 c ac am :=
  ⟨(kset_ne (by omega)).trans h.1, ⟨(kset_ne (by omega)).trans h.2.1.1, (kset_ne (by omega)).trans h.2.1.2.1, kset_eq⟩, (kset_ne (by omega)).trans h.2.2⟩
theorem kSt.nm {w : kW} {ad : Nat → Nat} {nr : Nat} {g : Nat → Nat → Int} {T : Nat} {lts : Nat → Nat → Int} {cs : Nat → Int} {acs : Nat → Nat → Int} {ams : Nat → Int} {rel fnd : Int} {Ns : Nat → Nat → Nat} (h : kSt w ad nr g T lts cs acs ams rel fnd Ns) {t : Nat} (ht : t < T) {N2 : Nat → Nat} (hN : ∀ x, N2 x ≤ 1000) : kSt (kset w (200 + 5 * t + 3) (ad (200 + 5 * t + 3)) (kNm N2)) ad nr g T lts cs acs ams rel fnd (kup Ns t N2) := by
  obtain ⟨a, b, c, d, e, f, i, j, k⟩ := id h
  have q := h.tx ht (j t ht).num (N := N2) ⟨(k t ht).1, hN, (k t ht).2.2⟩ (kEx.kset (by omega))
  rw [kup_id, kup_id, kup_id, kup_id] at q
  exact q
