/-! STATE: addresses of what comes new. Mine. -/
theorem kPl_cg {f f2 : Nat → Nat} {n : Nat} (h : ∀ i, i < n → f2 i = f i) : kPl f2 n = kPl f n := by
  funext i
  unfold kPl
  split
  · next e => rw [h i e]
  · rfl
theorem kLy.cg {w : kW} {al al2 : Nat → Nat} {O : kO} {sk : Nat → Nat → Int} {t : Int} (h : kLy w al O sk t) (he : ∀ k, k < 8 → al2 k = al k) : kLy w al2 O sk t := by
  unfold kLy at h ⊢
  rw [he 0 (by decide), he 1 (by decide), he 2 (by decide), he 3 (by decide), he 4 (by decide), he 5 (by decide), he 6 (by decide), he 7 (by decide)]
  exact h
section KST3
variable {w w2 : kW} {ad ad2 : Nat → Nat} {nr : Nat} {g : Nat → Nat → Int} {T : Nat} {lts : Nat → Nat → Int} {cs : Nat → Int} {acs : Nat → Nat → Int} {ams : Nat → Int} {rel fnd : Int} {Ns : Nat → Nat → Nat}
theorem kTx.cg {t : Nat} {lt : Nat → Int} {N : Nat → Nat} {c : Int} {ac : Nat → Int} {am : Int} (h : kTx w ad t lt N c ac am) (he : ∀ x, 200 + 5 * t ≤ x → x ≤ 200 + 5 * t + 4 → ad2 x = ad x) : kTx w ad2 t lt N c ac am := by
  unfold kTx at h ⊢
  rw [he (200 + 5 * t) (by omega) (by omega), he (200 + 5 * t + 1) (by omega) (by omega), he (200 + 5 * t + 2) (by omega) (by omega), he (200 + 5 * t + 3) (by omega) (by omega), he (200 + 5 * t + 4) (by omega) (by omega)]
  exact h
theorem kSt.cg (h : kSt w ad nr g T lts cs acs ams rel fnd Ns) (he : ∀ x, x ≤ 16 ∨ (100 ≤ x ∧ x < 100 + nr) ∨ (200 ≤ x ∧ x < 200 + 5 * T) → ad2 x = ad x) : kSt w ad2 nr g T lts cs acs ams rel fnd Ns := by
  obtain ⟨a, b, c, d, e, f, i, j, k⟩ := h
  refine ⟨?_, ⟨?_, ?_, fun x hx => ?_, b.2.2.2⟩, c, ⟨?_, d.2⟩, ?_, ?_, ⟨?_, ?_⟩, fun t ht => (j t ht).cg (fun x h1 h2 => he x (by omega)), k⟩
  · unfold kPo at a ⊢
    rw [he 0 (by omega), he 1 (by omega), he 3 (by omega), he 4 (by omega), he 7 (by omega), he 15 (by omega)]
    exact a
  · rw [he 1 (by omega), he 2 (by omega)]; exact b.1
  · rw [he 2 (by omega), kPl_cg (f := fun i => ad (100 + i)) (fun i hi => he (100 + i) (by omega))]; exact b.2.1
  · show w (100 + x) = some (ad2 (100 + x), kRl g x)
    rw [he (100 + x) (by omega)]; exact b.2.2.1 x hx
  · rw [he 3 (by omega), kPl_cg (f := fun t => ad (200 + 5 * t)) (fun t ht => he (200 + 5 * t) (by omega))]; exact d.1
  · obtain ⟨ls, Nz, cz, h1, h2, h3⟩ := e
    refine ⟨ls, Nz, cz, ?_, h2, h3⟩
    rw [he 4 (by omega), he 5 (by omega), he 6 (by omega)]; exact h1
  · obtain ⟨O, sk, h1, h2⟩ := f
    exact ⟨O, sk, h1.cg (fun k hk => he (7 + k) (by omega)), h2⟩
  · rw [he 15 (by omega), he 16 (by omega)]; exact i.1
  · obtain ⟨kn, h1⟩ := i.2
    refine ⟨kn, ?_⟩
    rw [he 16 (by omega)]; exact h1
theorem kRl_adr {g : Nat → Nat → Int} {r : Nat} {z1 z2 z3 z4 : Int} : kRl (m_ad g r z1 z2 z3 z4) r = ob 4 [.int (iI (r : Int)), .int (iI z1), .int (iI z2), .int (iI z3), .int (iI z4), .int (iI 0), .int (iI 0), .int (iI 0), .int (iI 0)] := by
  unfold kRl
  rw [m_ad_r, m_ad_r, m_ad_r, m_ad_r, m_ad_r, m_ad_r, m_ad_r, m_ad_r]
  rfl
/-- a rule more -/
theorem kSt.adr (h : kSt w ad nr g T lts cs acs ams rel fnd Ns) {b : Nat} {z1 z2 z3 z4 : Int} (hd1 : ∀ x, x ≠ 100 + nr → ad2 x = ad x) (hd2 : ad2 (100 + nr) = b) (hn : nr < 12) (hw : m_wf (m_ad g nr z1 z2 z3 z4) nr)
    (h1 : w2 1 = some (ad 1, ob 2 [.ref (ad 2), .int (iI ((nr + 1 : Nat) : Int))])) (h2 : w2 2 = some (ad 2, aq 5 12 (kPl (kup (fun i => ad (100 + i)) nr b) (nr + 1)))) (h3 : w2 (100 + nr) = some (b, ob 4 [.int (iI (nr : Int)), .int (iI z1), .int (iI z2), .int (iI z3), .int (iI z4), .int (iI 0), .int (iI 0), .int (iI 0), .int (iI 0)])) (hx : kEx w w2 (fun x : Nat => x = 1 ∨ x = 2 ∨ x = 100 + nr)) : kSt w2 ad2 (nr + 1) (m_ad g nr z1 z2 z3 z4) T lts cs acs ams rel fnd Ns := by
  have hT := h.2.2.2.1.2
  have hg := h.2.1
  refine (h.cg (ad2 := ad2) (fun x hx => hd1 x (by omega))).gr ⟨?_, ?_, fun i hi => ?_, by omega⟩ (h.2.2.1.ad hw) (hx.sub (fun x hx => by omega))
  · rw [hd1 1 (by omega), hd1 2 (by omega)]; exact h1
  · rw [hd1 2 (by omega), kPl_cg (f := kup (fun i => ad (100 + i)) nr b) (fun i hi => ?_)]
    · exact h2
    · by_cases e : i = nr
      · subst e; rw [kup_eq]; exact hd2
      · rw [kup_ne e]; exact hd1 _ (by omega)
  · show w2 (100 + i) = some (ad2 (100 + i), _)
    by_cases e : i = nr
    · subst e; rw [hd2, kRl_adr]; exact h3
    · rw [kRl_ad e, hd1 _ (by omega)]; exact (hx _ (by omega)).trans (hg.2.2.1 i (by omega))
/-- a text more -/
theorem kSu.addt (h : kSu w ad nr g T lts cs acs ams rel fnd Ns) (he : ∀ x, x < 200 + 5 * T → ad2 x = ad x) (hT : T < 6) {lt : Nat → Int} {N : Nat → Nat} {c : Int} {ac : Nat → Int} {am fnd2 : Int} (h0 : kPo w2 ad2 (T + 1) rel fnd2) (h3 : w2 3 = some (ad2 3, aq 6 6 (kPl (fun t => ad2 (200 + 5 * t)) (T + 1)))) (h4 : kTx w2 ad2 T lt N c ac am) (h5 : kTi lt N c ac am) (h6 : kTr N g nr lt c) (hx : kEx w w2 (fun x : Nat => x = 0 ∨ x = 3 ∨ (200 + 5 * T ≤ x ∧ x ≤ 200 + 5 * T + 4))) : kSu w2 ad2 nr g (T + 1) (kup lts T lt) (kup cs T c) (kup acs T ac) (kup ams T am) rel fnd2 (kup Ns T N) := by
  have hnr := h.1.2.1.2.2.2
  obtain ⟨a, b, c', d, e, f, i, j, k⟩ := h.1.cg (ad2 := ad2) (fun x hx => he x (by omega))
  refine ⟨⟨h0, b.ex hx (by omega) (by omega) (fun x _ => by omega), c', ⟨h3, by omega⟩, e.ex hx (fun x _ _ => by omega), f.ex hx (fun x _ _ => by omega), i.ex hx (by omega) (by omega), fun u hu => ?_, fun u hu => ?_⟩, fun u hu => ?_⟩
  · by_cases e : u = T
    · subst e; rw [kup_eq, kup_eq, kup_eq, kup_eq, kup_eq]; exact h4
    · rw [kup_ne e, kup_ne e, kup_ne e, kup_ne e, kup_ne e]; exact (j u (by omega)).ex hx (fun x _ _ => by omega)
  · by_cases e : u = T
    · subst e; rw [kup_eq, kup_eq, kup_eq, kup_eq, kup_eq]; exact h5
    · rw [kup_ne e, kup_ne e, kup_ne e, kup_ne e, kup_ne e]; exact k u (by omega)
  · by_cases e : u = T
    · subst e; rw [kup_eq, kup_eq, kup_eq]; exact h6
    · rw [kup_ne e, kup_ne e, kup_ne e]; exact h.2 u (by omega)
end KST3
def m_a5 (ad : Nat → Nat) (q a0 a1 a2 a3 a4 : Nat) : Nat → Nat := fun x => if x = q then a0 else if x = q + 1 then a1 else if x = q + 2 then a2 else if x = q + 3 then a3 else if x = q + 4 then a4 else ad x
theorem m_a5_0 {ad : Nat → Nat} {q a0 a1 a2 a3 a4 : Nat} : m_a5 ad q a0 a1 a2 a3 a4 q = a0 := if_pos rfl
theorem m_a5_1 {ad : Nat → Nat} {q a0 a1 a2 a3 a4 : Nat} : m_a5 ad q a0 a1 a2 a3 a4 (q + 1) = a1 := by unfold m_a5; rw [if_neg (by omega), if_pos rfl]
theorem m_a5_2 {ad : Nat → Nat} {q a0 a1 a2 a3 a4 : Nat} : m_a5 ad q a0 a1 a2 a3 a4 (q + 2) = a2 := by unfold m_a5; rw [if_neg (by omega), if_neg (by omega), if_pos rfl]
theorem m_a5_3 {ad : Nat → Nat} {q a0 a1 a2 a3 a4 : Nat} : m_a5 ad q a0 a1 a2 a3 a4 (q + 3) = a3 := by unfold m_a5; rw [if_neg (by omega), if_neg (by omega), if_neg (by omega), if_pos rfl]
theorem m_a5_4 {ad : Nat → Nat} {q a0 a1 a2 a3 a4 : Nat} : m_a5 ad q a0 a1 a2 a3 a4 (q + 4) = a4 := by unfold m_a5; rw [if_neg (by omega), if_neg (by omega), if_neg (by omega), if_neg (by omega), if_pos rfl]
theorem m_a5_x {ad : Nat → Nat} {q a0 a1 a2 a3 a4 x : Nat} (h : x < q) : m_a5 ad q a0 a1 a2 a3 a4 x = ad x := by unfold m_a5; rw [if_neg (by omega), if_neg (by omega), if_neg (by omega), if_neg (by omega), if_neg (by omega)]
theorem m_pc {p c : Int} (h : 0 ≤ p ∧ p < c) (hc : c ≤ 10) : 0 ≤ (p + 1) * (c - p) ∧ (p + 1) * (c - p) ≤ 110 := by
  obtain ⟨n, rfl⟩ : ∃ n : Nat, c = n := ⟨c.toNat, by omega⟩
  obtain ⟨m, rfl⟩ : ∃ m : Nat, p = m := ⟨p.toNat, by omega⟩
  have key : ∀ (n : Fin 11) (m : Fin 10), m.val < n.val → 0 ≤ ((m.val : Int) + 1) * ((n.val : Int) - (m.val : Int)) ∧ ((m.val : Int) + 1) * ((n.val : Int) - (m.val : Int)) ≤ 110 := by decide +kernel
  exact key ⟨n, by omega⟩ ⟨m, by omega⟩ (by show m < n; omega)
theorem m_pl {c : Int} : (c + 1) * (c + 1 - c) = c + 1 := by rw [show c + 1 - c = 1 by omega, Int.mul_one]
