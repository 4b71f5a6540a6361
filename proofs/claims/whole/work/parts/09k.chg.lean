/-! THE MODEL'S NUMBERS THAT CHANGE. Mine. -/
theorem m_up_s {g : Nat → Nat → Int} {f r : Nat} {v : Int} : m_up g f r v f = kup (g f) r v := by
  funext b; unfold m_up kup
  by_cases e : b = r
  · rw [if_pos ⟨rfl, e⟩, if_pos e]
  · rw [if_neg (fun q => e q.2), if_neg e]
theorem m_up_o {g : Nat → Nat → Int} {f r k : Nat} {v : Int} (h : k ≠ f) : m_up g f r v k = g k := by
  funext b; exact m_up_nf h
theorem m_rt_up {g : Nat → Nat → Int} {f r : Nat} {v : Int} (h : 4 < f) : m_rt (m_up g f r v) = m_rt g := by
  funext x; unfold m_rt; rw [m_up_nf (by omega)]
theorem m_ad_1 {g : Nat → Nat → Int} {r : Nat} {z1 z2 z3 z4 : Int} : m_ad g r z1 z2 z3 z4 1 = kup (g 1) r z1 := by
  funext b; unfold kup
  by_cases e : b = r
  · subst e; rw [if_pos rfl, m_ad_r, if_pos rfl]
  · rw [if_neg e, m_ad_nr e]
theorem m_ad_o {g : Nat → Nat → Int} {r k : Nat} {z1 z2 z3 z4 : Int} (h0 : g k r = 0) (hk : 4 < k) : m_ad g r z1 z2 z3 z4 k = g k := by
  funext b
  by_cases e : b = r
  · subst e; rw [m_ad_r, if_neg (by omega), if_neg (by omega), if_neg (by omega), if_neg (by omega), h0]
  · rw [m_ad_nr e]
theorem m_ad_rt {g : Nat → Nat → Int} {r : Nat} {z1 z2 z3 z4 : Int} : m_rt (m_ad g r z1 z2 z3 z4) = kup (kup (kup (m_rt g) (3 * ((r : Nat) : Int)).toNat z2) (3 * ((r : Nat) : Int) + 1).toNat z3) (3 * ((r : Nat) : Int) + 2).toNat z4 := by
  funext x
  unfold m_rt kup
  by_cases e : x / 3 = r
  · subst e
    have h : x % 3 = 0 ∨ x % 3 = 1 ∨ x % 3 = 2 := by omega
    rw [m_ad_r]
    rcases h with h | h | h
    · rw [if_neg (by omega), if_pos (by omega), if_neg (by omega), if_neg (by omega), if_pos (by omega)]
    · rw [if_neg (by omega), if_neg (by omega), if_pos (by omega), if_neg (by omega), if_pos (by omega)]
    · rw [if_neg (by omega), if_neg (by omega), if_neg (by omega), if_pos (by omega), if_pos (by omega)]
  · rw [m_ad_nr e, if_neg (by omega), if_neg (by omega), if_neg (by omega)]
theorem m_np_ad {g : Nat → Nat → Int} {r : Nat} {z1 z2 z3 z4 : Int} : m_np (m_ad g r z1 z2 z3 z4) r = if z3 = -1 then 1 else if z4 = -1 then 2 else 3 := by
  unfold m_np; rw [m_ad_r, m_ad_r]; rfl
theorem m_np_cg {g g' : Nat → Nat → Int} {r : Nat} (h3 : g 3 r = g' 3 r) (h4 : g 4 r = g' 4 r) : m_np g r = m_np g' r := by unfold m_np; rw [h3, h4]
section KMI
variable {nr : Nat} {g : Nat → Nat → Int} {T : Nat} {lts : Nat → Nat → Int} {cs : Nat → Int} {acs : Nat → Nat → Int} {ams ltA acA mnA : Nat → Int}
theorem kMi.up (h : kMi nr g T lts cs acs ams ltA acA mnA) {f r : Nat} {v : Int} (hr : r < nr) (hf : (f = 5 ∧ 0 ≤ v ∧ v ≤ 9) ∨ (f = 6 ∧ 0 ≤ v ∧ v ≤ 9) ∨ (f = 7 ∧ 0 ≤ v ∧ v ≤ 3) ∨ (f = 8 ∧ 0 ≤ v ∧ v ≤ 1)) : kMi nr (m_up g f r v) T lts cs acs ams ltA acA mnA := by
  obtain ⟨a, b, c, d, e, k⟩ := h
  refine ⟨a.up hf, b, c, fun x hx => (d x hx).trans (m_np_cg (m_up_nf (by omega)).symm (m_up_nf (by omega)).symm), fun x y h1 h2 h3 => ?_, k⟩
  rw [m_up_nr (by omega)]
  exact e x y h1 h2 h3
theorem kMi.ad (h : kMi nr g T lts cs acs ams ltA acA mnA) {x y u v e : Int} (hn : nr < 12) (hw : m_rf x y u v) (he : e = if u = -1 then 1 else if v = -1 then 2 else 3) : kMi (nr + 1) (m_ad g nr x y u v) T lts cs acs ams ltA acA (kup mnA nr e) := by
  obtain ⟨a, b, c, d, e2, k⟩ := h
  refine ⟨a.ad (m_rf_wf hw), by omega, c, fun z hz => ?_, fun z f h1 h2 h3 => ?_, k⟩
  · by_cases q : z = nr
    · rw [q, kup_eq, m_np_ad, he]
    · rw [kup_ne q]
      exact (d z (by omega)).trans (m_np_cg (m_ad_nr q).symm (m_ad_nr q).symm)
  · rw [m_ad_nr (by omega)]
    exact e2 z f (by omega) h2 h3
theorem kMi.acc (h : kMi nr g T lts cs acs ams ltA acA mnA) {X : Nat} {aA ac2 : Nat → Int} {A1 : Int} (hX : X < T) (h1 : 0 ≤ A1 ∧ A1 ≤ 95) (hr : ∀ p, 0 ≤ ac2 p ∧ ac2 p < 12) (h2 : ∀ p : Nat, (p : Int) < A1 → aA (100 * X + p) = ac2 p) (h3 : ∀ z : Nat, (z < 100 * X ∨ 100 * X + 100 ≤ z) → aA z = acA z) : kMi nr g T lts cs (kup acs X ac2) (kup ams X A1) ltA aA mnA := by
  obtain ⟨a, b, c, d, e, k⟩ := h
  refine ⟨a, b, c, d, e, fun t ht => ?_⟩
  obtain ⟨k1, k2, k3, k4, k5, k6⟩ := k t ht
  by_cases q : t = X
  · subst q
    rw [kup_eq, kup_eq]
    exact ⟨k1, k2, h1, hr, k5, h2⟩
  · rw [kup_ne q, kup_ne q]
    exact ⟨k1, k2, k3, k4, k5, fun p hp => (h3 _ (by omega)).trans (k6 p hp)⟩
theorem kMi.lets (h : kMi nr g T lts cs acs ams ltA acA mnA) {X : Nat} {lA L2 : Nat → Int} {c2 : Int} (hX : X < T) (h1 : 1 ≤ c2 ∧ c2 ≤ 10) (hr : kLt L2) (h2 : ∀ p : Nat, (p : Int) < c2 → lA (10 * X + p) = L2 p) (h3 : ∀ z : Nat, (z < 10 * X ∨ 10 * X + 10 ≤ z) → lA z = ltA z) : kMi nr g T (kup lts X L2) (kup cs X c2) acs ams lA acA mnA := by
  obtain ⟨a, b, c, d, e, k⟩ := h
  refine ⟨a, b, c, d, e, fun t ht => ?_⟩
  obtain ⟨k1, k2, k3, k4, k5, k6⟩ := k t ht
  by_cases q : t = X
  · subst q
    rw [kup_eq, kup_eq]
    exact ⟨hr, h1, k3, k4, h2, k6⟩
  · rw [kup_ne q, kup_ne q]
    exact ⟨k1, k2, k3, k4, fun p hp => (h3 _ (by omega)).trans (k5 p hp), k6⟩
theorem kMi.text (h : kMi nr g T lts cs acs ams ltA acA mnA) {x : Int} (hT : T < 6) (hx : m_isL x) : kMi nr g (T + 1) (kup lts T (kup (fun _ => 0) (0 : Int).toNat x)) (kup cs T 1) (kup acs T (fun _ => 0)) (kup ams T 0) (kup ltA (10 * ((T : Nat) : Int)).toNat x) acA mnA := by
  obtain ⟨a, b, c, d, e, k⟩ := h
  refine ⟨a, b, by omega, d, e, fun t ht => ?_⟩
  by_cases q : t = T
  · subst q
    rw [kup_eq, kup_eq, kup_eq, kup_eq]
    refine ⟨kLt_up (fun p => by show (0 : Int) ≤ 0 ∧ (0 : Int) < 8; decide) hx, by omega, by omega, fun p => by show (0 : Int) ≤ 0 ∧ (0 : Int) < 12; decide, fun p hp => ?_, fun p hp => by omega⟩
    have hp0 : p = 0 := by omega
    subst hp0
    rw [show (10 * ((t : Nat) : Int)).toNat = 10 * t + 0 by omega, kup_eq]
    exact kup_eq.symm
  · obtain ⟨k1, k2, k3, k4, k5, k6⟩ := k t (by omega)
    rw [kup_ne q, kup_ne q, kup_ne q, kup_ne q]
    exact ⟨k1, k2, k3, k4, fun p hp => (kup_ne (by omega)).trans (k5 p hp), k6⟩
end KMI
theorem kMd.u5 {w : kW} {bd : Nat → Nat} {nr : Nat} {g : Nat → Nat → Int} {T : Nat} {cs ams ltA acA mnA : Nat → Int} {rel fnd sz : Int} {rx : Nat → Int} {N : Nat → Nat} {tm : Int} {tr sh sg : Nat → Int} {sm dp th : Int} {r : Nat} {v : Int} (h : kMd w bd nr g T cs ams ltA acA mnA rel fnd sz rx N tm tr sh sg sm dp th) : kMd (kset w 23 (bd 3) (ai 12 (kup (g 5) r v))) bd nr (m_up g 5 r v) T cs ams ltA acA mnA rel fnd sz rx N tm tr sh sg sm dp th := by
  have e : ∀ k : Nat, k ≠ 5 → m_up g 5 r v k = g k := fun k hk => m_up_o hk
  unfold kMd
  rw [e 1 (by decide), e 6 (by decide), e 7 (by decide), e 8 (by decide), m_rt_up (by decide), m_up_s]
  exact ⟨(kset_ne (by decide)).trans h.1, (kset_ne (by decide)).trans h.2.1, (kset_ne (by decide)).trans h.2.2.1, (kset_ne (by decide)).trans h.2.2.2.1, kset_eq, (kset_ne (by decide)).trans h.2.2.2.2.2.1, (kset_ne (by decide)).trans h.2.2.2.2.2.2.1, (kset_ne (by decide)).trans h.2.2.2.2.2.2.2.1, (kset_ne (by decide)).trans h.2.2.2.2.2.2.2.2.1, (kset_ne (by decide)).trans h.2.2.2.2.2.2.2.2.2.1, (kset_ne (by decide)).trans h.2.2.2.2.2.2.2.2.2.2.1, (kset_ne (by decide)).trans h.2.2.2.2.2.2.2.2.2.2.2.1, (kset_ne (by decide)).trans h.2.2.2.2.2.2.2.2.2.2.2.2.1, (kset_ne (by decide)).trans h.2.2.2.2.2.2.2.2.2.2.2.2.2.1, (kset_ne (by decide)).trans h.2.2.2.2.2.2.2.2.2.2.2.2.2.2.1, (kset_ne (by decide)).trans h.2.2.2.2.2.2.2.2.2.2.2.2.2.2.2.1, (kset_ne (by decide)).trans h.2.2.2.2.2.2.2.2.2.2.2.2.2.2.2.2⟩
theorem kMd.u6 {w : kW} {bd : Nat → Nat} {nr : Nat} {g : Nat → Nat → Int} {T : Nat} {cs ams ltA acA mnA : Nat → Int} {rel fnd sz : Int} {rx : Nat → Int} {N : Nat → Nat} {tm : Int} {tr sh sg : Nat → Int} {sm dp th : Int} {r : Nat} {v : Int} (h : kMd w bd nr g T cs ams ltA acA mnA rel fnd sz rx N tm tr sh sg sm dp th) : kMd (kset w 24 (bd 4) (ai 12 (kup (g 6) r v))) bd nr (m_up g 6 r v) T cs ams ltA acA mnA rel fnd sz rx N tm tr sh sg sm dp th := by
  have e : ∀ k : Nat, k ≠ 6 → m_up g 6 r v k = g k := fun k hk => m_up_o hk
  unfold kMd
  rw [e 1 (by decide), e 5 (by decide), e 7 (by decide), e 8 (by decide), m_rt_up (by decide), m_up_s]
  exact ⟨(kset_ne (by decide)).trans h.1, (kset_ne (by decide)).trans h.2.1, (kset_ne (by decide)).trans h.2.2.1, (kset_ne (by decide)).trans h.2.2.2.1, (kset_ne (by decide)).trans h.2.2.2.2.1, kset_eq, (kset_ne (by decide)).trans h.2.2.2.2.2.2.1, (kset_ne (by decide)).trans h.2.2.2.2.2.2.2.1, (kset_ne (by decide)).trans h.2.2.2.2.2.2.2.2.1, (kset_ne (by decide)).trans h.2.2.2.2.2.2.2.2.2.1, (kset_ne (by decide)).trans h.2.2.2.2.2.2.2.2.2.2.1, (kset_ne (by decide)).trans h.2.2.2.2.2.2.2.2.2.2.2.1, (kset_ne (by decide)).trans h.2.2.2.2.2.2.2.2.2.2.2.2.1, (kset_ne (by decide)).trans h.2.2.2.2.2.2.2.2.2.2.2.2.2.1, (kset_ne (by decide)).trans h.2.2.2.2.2.2.2.2.2.2.2.2.2.2.1, (kset_ne (by decide)).trans h.2.2.2.2.2.2.2.2.2.2.2.2.2.2.2.1, (kset_ne (by decide)).trans h.2.2.2.2.2.2.2.2.2.2.2.2.2.2.2.2⟩
theorem kMd.u7 {w : kW} {bd : Nat → Nat} {nr : Nat} {g : Nat → Nat → Int} {T : Nat} {cs ams ltA acA mnA : Nat → Int} {rel fnd sz : Int} {rx : Nat → Int} {N : Nat → Nat} {tm : Int} {tr sh sg : Nat → Int} {sm dp th : Int} {r : Nat} {v : Int} (h : kMd w bd nr g T cs ams ltA acA mnA rel fnd sz rx N tm tr sh sg sm dp th) : kMd (kset w 25 (bd 5) (ai 12 (kup (g 7) r v))) bd nr (m_up g 7 r v) T cs ams ltA acA mnA rel fnd sz rx N tm tr sh sg sm dp th := by
  have e : ∀ k : Nat, k ≠ 7 → m_up g 7 r v k = g k := fun k hk => m_up_o hk
  unfold kMd
  rw [e 1 (by decide), e 5 (by decide), e 6 (by decide), e 8 (by decide), m_rt_up (by decide), m_up_s]
  exact ⟨(kset_ne (by decide)).trans h.1, (kset_ne (by decide)).trans h.2.1, (kset_ne (by decide)).trans h.2.2.1, (kset_ne (by decide)).trans h.2.2.2.1, (kset_ne (by decide)).trans h.2.2.2.2.1, (kset_ne (by decide)).trans h.2.2.2.2.2.1, kset_eq, (kset_ne (by decide)).trans h.2.2.2.2.2.2.2.1, (kset_ne (by decide)).trans h.2.2.2.2.2.2.2.2.1, (kset_ne (by decide)).trans h.2.2.2.2.2.2.2.2.2.1, (kset_ne (by decide)).trans h.2.2.2.2.2.2.2.2.2.2.1, (kset_ne (by decide)).trans h.2.2.2.2.2.2.2.2.2.2.2.1, (kset_ne (by decide)).trans h.2.2.2.2.2.2.2.2.2.2.2.2.1, (kset_ne (by decide)).trans h.2.2.2.2.2.2.2.2.2.2.2.2.2.1, (kset_ne (by decide)).trans h.2.2.2.2.2.2.2.2.2.2.2.2.2.2.1, (kset_ne (by decide)).trans h.2.2.2.2.2.2.2.2.2.2.2.2.2.2.2.1, (kset_ne (by decide)).trans h.2.2.2.2.2.2.2.2.2.2.2.2.2.2.2.2⟩
theorem kMd.u8 {w : kW} {bd : Nat → Nat} {nr : Nat} {g : Nat → Nat → Int} {T : Nat} {cs ams ltA acA mnA : Nat → Int} {rel fnd sz : Int} {rx : Nat → Int} {N : Nat → Nat} {tm : Int} {tr sh sg : Nat → Int} {sm dp th : Int} {r : Nat} {v : Int} (h : kMd w bd nr g T cs ams ltA acA mnA rel fnd sz rx N tm tr sh sg sm dp th) : kMd (kset w 26 (bd 6) (az 12 (kup (g 8) r v))) bd nr (m_up g 8 r v) T cs ams ltA acA mnA rel fnd sz rx N tm tr sh sg sm dp th := by
  have e : ∀ k : Nat, k ≠ 8 → m_up g 8 r v k = g k := fun k hk => m_up_o hk
  unfold kMd
  rw [e 1 (by decide), e 5 (by decide), e 6 (by decide), e 7 (by decide), m_rt_up (by decide), m_up_s]
  exact ⟨(kset_ne (by decide)).trans h.1, (kset_ne (by decide)).trans h.2.1, (kset_ne (by decide)).trans h.2.2.1, (kset_ne (by decide)).trans h.2.2.2.1, (kset_ne (by decide)).trans h.2.2.2.2.1, (kset_ne (by decide)).trans h.2.2.2.2.2.1, (kset_ne (by decide)).trans h.2.2.2.2.2.2.1, kset_eq, (kset_ne (by decide)).trans h.2.2.2.2.2.2.2.2.1, (kset_ne (by decide)).trans h.2.2.2.2.2.2.2.2.2.1, (kset_ne (by decide)).trans h.2.2.2.2.2.2.2.2.2.2.1, (kset_ne (by decide)).trans h.2.2.2.2.2.2.2.2.2.2.2.1, (kset_ne (by decide)).trans h.2.2.2.2.2.2.2.2.2.2.2.2.1, (kset_ne (by decide)).trans h.2.2.2.2.2.2.2.2.2.2.2.2.2.1, (kset_ne (by decide)).trans h.2.2.2.2.2.2.2.2.2.2.2.2.2.2.1, (kset_ne (by decide)).trans h.2.2.2.2.2.2.2.2.2.2.2.2.2.2.2.1, (kset_ne (by decide)).trans h.2.2.2.2.2.2.2.2.2.2.2.2.2.2.2.2⟩

def m_dv (K : Int) (n t : Nat) : Nat := n / K.toNat ^ t
theorem m_dv_0 {K : Int} {n : Nat} : m_dv K n 0 = n := by unfold m_dv; rw [Nat.pow_zero, Nat.div_one]
theorem m_dv_s {K : Int} {n t : Nat} (hK : 0 ≤ K) : ((m_dv K n t : Nat) : Int) / K = ((m_dv K n (t + 1) : Nat) : Int) := by
  obtain ⟨k, rfl⟩ : ∃ k : Nat, K = k := ⟨K.toNat, by omega⟩
  unfold m_dv
  rw [Int.toNat_natCast, ← Int.natCast_ediv, Nat.div_div_eq_div_mul, Nat.pow_succ]
theorem m_dv_le {K : Int} {n t : Nat} : m_dv K n t ≤ n := Nat.div_le_self _ _
theorem m_rw_d {K c : Int} {n : Nat} {k : Int} (hK : 1 ≤ K) (hk : 0 ≤ k ∧ k < c) : ((m_dv K n (c - 1 - k).toNat : Nat) : Int) % K = m_rw K c.toNat n k.toNat := by
  obtain ⟨K', rfl⟩ : ∃ k : Nat, K = k := ⟨K.toNat, by omega⟩
  unfold m_dv m_rw
  rw [if_pos (by omega), show c.toNat - 1 - k.toNat = (c - 1 - k).toNat by omega, ← Int.natCast_emod, Int.toNat_natCast]
theorem m_pw_s {K : Int} {k : Nat} (hK : 0 ≤ K) : ((m_pw K k : Nat) : Int) * K = ((m_pw K (k + 1) : Nat) : Int) := by
  obtain ⟨K', rfl⟩ : ∃ k : Nat, K = k := ⟨K.toNat, by omega⟩
  unfold m_pw
  rw [Int.toNat_natCast, Nat.pow_succ, ← Int.natCast_mul]
theorem m_am_row {g : Nat → Nat → Int} {nr : Nat} {K c : Int} {n : Nat} {rx : Nat → Int} (hc : 1 ≤ c) (hrow : ∀ p : Nat, (p : Int) < c → rx p = m_rw K c.toNat n p) : m_am g nr K c.toNat n ↔ 1 < m_TT g nr rx 10 0 (c - 1) := by
  unfold m_am
  rw [show ((c.toNat : Nat) : Int) = c by omega, m_TT_row (row := m_rw K c.toNat n) (row' := rx) (by omega) (fun p q1 q2 => (hrow p.toNat (by omega)).symm)]
theorem kMd.ad {w : kW} {bd : Nat → Nat} {nr : Nat} {g : Nat → Nat → Int} {T : Nat} {cs ams ltA acA mnA : Nat → Int} {rel fnd sz : Int} {rx : Nat → Int} {N : Nat → Nat} {tm : Int} {tr sh sg : Nat → Int} {sm dp th : Int} {x y u v e : Int} (hg0 : ∀ k : Nat, 5 ≤ k → k ≤ 8 → g k nr = 0) (h19 : w 19 = some (bd 25, ob 9 [.ref (bd 0), .ref (bd 1), .ref (bd 2), .ref (bd 3), .ref (bd 4), .ref (bd 5), .ref (bd 6), .int (iI (((nr + 1 : Nat) : Int))), .ref (bd 8), .ref (bd 9), .ref (bd 10), .ref (bd 11), .int (iI (((T : Nat) : Int))), .long (lI fnd), .int (iI rel), .ref (bd 15), .int (iI sz), .ref (bd 17), .ref (bd 18), .int (iI tm), .ref (bd 20), .ref (bd 21), .int (iI sm), .int (iI dp), .int (iI th)])) (h20 : w 20 = some (bd 0, ai 12 (kup (g 1) nr x))) (h21 : w 21 = some (bd 1, ai 36 (kup (kup (kup (m_rt g) (3 * ((nr : Nat) : Int)).toNat y) (3 * ((nr : Nat) : Int) + 1).toNat u) (3 * ((nr : Nat) : Int) + 2).toNat v))) (h22 : w 22 = some (bd 2, ai 12 (kup mnA nr e))) (h23 : w 23 = some (bd 3, ai 12 (g 5))) (h24 : w 24 = some (bd 4, ai 12 (g 6))) (h25 : w 25 = some (bd 5, ai 12 (g 7))) (h26 : w 26 = some (bd 6, az 12 (g 8))) (h28 : w 28 = some (bd 8, ai 60 ltA)) (h29 : w 29 = some (bd 9, ai 6 cs)) (h30 : w 30 = some (bd 10, ai 600 acA)) (h31 : w 31 = some (bd 11, ai 6 ams)) (h35 : w 35 = some (bd 15, ai 10 rx)) (h37 : w 37 = some (bd 17, kNm N)) (h38 : w 38 = some (bd 18, ai 100 tr)) (h40 : w 40 = some (bd 20, ai 10 sh)) (h41 : w 41 = some (bd 21, ac 64 sg)) : kMd w bd (nr + 1) (m_ad g nr x y u v) T cs ams ltA acA (kup mnA nr e) rel fnd sz rx N tm tr sh sg sm dp th := by
  unfold kMd
  rw [m_ad_1, m_ad_rt, m_ad_o (hg0 5 (by decide) (by decide)) (by decide), m_ad_o (hg0 6 (by decide) (by decide)) (by decide), m_ad_o (hg0 7 (by decide) (by decide)) (by decide), m_ad_o (hg0 8 (by decide) (by decide)) (by decide)]
  exact ⟨h19, h20, h21, h22, h23, h24, h25, h26, h28, h29, h30, h31, h35, h37, h38, h40, h41⟩
