/-! THE CLASS'S STATE: ad k is the address of the cell with key k. Mine. -/
def kTx (w : kW) (ad : Nat → Nat) (t : Nat) (lt : Nat → Int) (N : Nat → Nat) (c : Int) (ac : Nat → Int) (am : Int) : Prop :=
  w (200 + 5 * t) = some (ad (200 + 5 * t), ob 6 [.ref (ad (200 + 5 * t + 1)), .ref (ad (200 + 5 * t + 4)), .int (iI am)]) ∧ kSp w (200 + 5 * t + 1) (ad (200 + 5 * t + 1)) (ad (200 + 5 * t + 2)) (ad (200 + 5 * t + 3)) lt N c ∧ w (200 + 5 * t + 4) = some (ad (200 + 5 * t + 4), ai 95 ac)
/-- what holds of a text's numbers -/
def kTi (lt : Nat → Int) (N : Nat → Nat) (c : Int) (ac : Nat → Int) (am : Int) : Prop :=
  kLt lt ∧ (∀ x, N x ≤ 1000) ∧ (1 ≤ c ∧ c ≤ 10) ∧ (0 ≤ am ∧ am ≤ 95) ∧ ∀ p, 0 ≤ ac p ∧ ac p < 12
def kSc (w : kW) (ad : Nat → Nat) : Prop := ∃ (ls : Nat → Int) (Nz : Nat → Nat) (cz : Int), kSp w 4 (ad 4) (ad 5) (ad 6) ls Nz cz ∧ kLt ls ∧ ∀ x, Nz x ≤ 1000
def kLo (w : kW) (ad : Nat → Nat) : Prop := ∃ (O : kO) (sk : Nat → Nat → Int), kLy w (fun k => ad (7 + k)) O sk 0 ∧ kOi O
def kTo (w : kW) (ad : Nat → Nat) : Prop := w 15 = some (ad 15, ob 7 [.ref (ad 16)]) ∧ ∃ kn : Nat → Int, w 16 = some (ad 16, ai 500 kn)
def kPo (w : kW) (ad : Nat → Nat) (T : Nat) (rel fnd : Int) : Prop := w 0 = some (ad 0, ob 8 [.ref (ad 1), .ref (ad 3), .ref (ad 4), .ref (ad 7), .ref (ad 15), .int (iI (T : Int)), .int (iI rel), .long (lI fnd)])
def kTs (w : kW) (ad : Nat → Nat) (T : Nat) : Prop := w 3 = some (ad 3, aq 6 6 (kPl (fun t => ad (200 + 5 * t)) T)) ∧ T ≤ 6
abbrev kGa (w : kW) (ad : Nat → Nat) (nr : Nat) (g : Nat → Nat → Int) : Prop := kGr w (ad 1) (ad 2) nr (fun i => ad (100 + i)) g
def kSt (w : kW) (ad : Nat → Nat) (nr : Nat) (g : Nat → Nat → Int) (T : Nat) (lts : Nat → Nat → Int) (cs : Nat → Int) (acs : Nat → Nat → Int) (ams : Nat → Int) (rel fnd : Int) (Ns : Nat → Nat → Nat) : Prop :=
  kPo w ad T rel fnd ∧ kGa w ad nr g ∧ kWf g nr ∧ kTs w ad T ∧ kSc w ad ∧ kLo w ad ∧ kTo w ad ∧ (∀ t, t < T → kTx w ad t (lts t) (Ns t) (cs t) (acs t) (ams t)) ∧ ∀ t, t < T → kTi (lts t) (Ns t) (cs t) (acs t) (ams t)
/-- and the kept numbers are true -/
def kSu (w : kW) (ad : Nat → Nat) (nr : Nat) (g : Nat → Nat → Int) (T : Nat) (lts : Nat → Nat → Int) (cs : Nat → Int) (acs : Nat → Nat → Int) (ams : Nat → Int) (rel fnd : Int) (Ns : Nat → Nat → Nat) : Prop :=
  kSt w ad nr g T lts cs acs ams rel fnd Ns ∧ ∀ t, t < T → kTr (Ns t) g nr (lts t) (cs t)
section KST
variable {w w2 : kW} {ad : Nat → Nat} {nr : Nat} {g : Nat → Nat → Int} {T : Nat} {lts : Nat → Nat → Int} {cs : Nat → Int} {acs : Nat → Nat → Int} {ams : Nat → Int} {rel fnd : Int} {Ns : Nat → Nat → Nat} {ks : Nat → Prop}
theorem kTx.ex {t : Nat} {lt : Nat → Int} {N : Nat → Nat} {c : Int} {ac : Nat → Int} {am : Int} (h : kTx w ad t lt N c ac am) (hx : kEx w w2 ks) (hk : ∀ x, 200 + 5 * t ≤ x → x ≤ 200 + 5 * t + 4 → ¬ ks x) : kTx w2 ad t lt N c ac am :=
  ⟨(hx _ (hk _ (by omega) (by omega))).trans h.1, h.2.1.ex hx (hk _ (by omega) (by omega)) (hk _ (by omega) (by omega)) (hk _ (by omega) (by omega)), (hx _ (hk _ (by omega) (by omega))).trans h.2.2⟩
theorem kLy.ex {al : Nat → Nat} {O : kO} {sk : Nat → Nat → Int} {t : Int} (h : kLy w al O sk t) (hx : kEx w w2 ks) (hk : ∀ x, 7 ≤ x → x ≤ 14 → ¬ ks x) : kLy w2 al O sk t :=
  ⟨(hx _ (hk _ (by omega) (by omega))).trans h.1, (hx _ (hk _ (by omega) (by omega))).trans h.2.1, (hx _ (hk _ (by omega) (by omega))).trans h.2.2.1, (hx _ (hk _ (by omega) (by omega))).trans h.2.2.2.1, (hx _ (hk _ (by omega) (by omega))).trans h.2.2.2.2.1, (hx _ (hk _ (by omega) (by omega))).trans h.2.2.2.2.2.1, (hx _ (hk _ (by omega) (by omega))).trans h.2.2.2.2.2.2.1, (hx _ (hk _ (by omega) (by omega))).trans h.2.2.2.2.2.2.2⟩
theorem kSc.ex (h : kSc w ad) (hx : kEx w w2 ks) (hk : ∀ x, 4 ≤ x → x ≤ 6 → ¬ ks x) : kSc w2 ad := by
  obtain ⟨ls, Nz, cz, h1, h2, h3⟩ := h
  exact ⟨ls, Nz, cz, h1.ex hx (hk _ (by omega) (by omega)) (hk _ (by omega) (by omega)) (hk _ (by omega) (by omega)), h2, h3⟩
theorem kLo.ex (h : kLo w ad) (hx : kEx w w2 ks) (hk : ∀ x, 7 ≤ x → x ≤ 14 → ¬ ks x) : kLo w2 ad := by
  obtain ⟨O, sk, h1, h2⟩ := h
  exact ⟨O, sk, h1.ex hx hk, h2⟩
theorem kTo.ex (h : kTo w ad) (hx : kEx w w2 ks) (h1 : ¬ ks 15) (h2 : ¬ ks 16) : kTo w2 ad := by
  obtain ⟨a, kn, b⟩ := h
  exact ⟨(hx _ h1).trans a, kn, (hx _ h2).trans b⟩
theorem kPo.ex (h : kPo w ad T rel fnd) (hx : kEx w w2 ks) (h1 : ¬ ks 0) : kPo w2 ad T rel fnd := (hx _ h1).trans h
theorem kTs.ex (h : kTs w ad T) (hx : kEx w w2 ks) (h1 : ¬ ks 3) : kTs w2 ad T := ⟨(hx _ h1).trans h.1, h.2⟩
/-- the layout alone was written -/
theorem kSt.ly (h : kSt w ad nr g T lts cs acs ams rel fnd Ns) {O : kO} {sk : Nat → Nat → Int} (hly : kLy w2 (fun k => ad (7 + k)) O sk 0) (hO : kOi O) (hx : kEx w w2 kLk) : kSt w2 ad nr g T lts cs acs ams rel fnd Ns := by
  obtain ⟨a, b, c, d, e, f, i, j, k⟩ := h
  exact ⟨a.ex hx (by show ¬ (7 ≤ 0 ∧ 0 ≤ 14); omega), b.lk hx, c, d.ex hx (by show ¬ (7 ≤ 3 ∧ 3 ≤ 14); omega), e.ex hx (fun x h1 h2 => by show ¬ (7 ≤ x ∧ x ≤ 14); omega), ⟨O, sk, hly, hO⟩, i.ex hx (by show ¬ (7 ≤ 15 ∧ 15 ≤ 14); omega) (by show ¬ (7 ≤ 16 ∧ 16 ≤ 14); omega), fun t ht => (j t ht).ex hx (fun x h1 h2 => by show ¬ (7 ≤ x ∧ x ≤ 14); omega), k⟩
/-- the scratch spans alone were written -/
theorem kSt.sc (h : kSt w ad nr g T lts cs acs ams rel fnd Ns) {ls : Nat → Int} {Nz : Nat → Nat} {cz : Int} (h4 : kSp w2 4 (ad 4) (ad 5) (ad 6) ls Nz cz) (h5 : kLt ls) (h6 : ∀ x, Nz x ≤ 1000) (hx : kEx w w2 (fun x : Nat => 4 ≤ x ∧ x ≤ 6)) : kSt w2 ad nr g T lts cs acs ams rel fnd Ns := by
  obtain ⟨a, b, c, d, e, f, i, j, k⟩ := h
  exact ⟨a.ex hx (by omega), b.ex hx (by omega) (by omega) (fun x _ => by omega), c, d.ex hx (by omega), ⟨ls, Nz, cz, h4, h5, h6⟩, f.ex hx (fun x _ _ => by omega), i.ex hx (by omega) (by omega), fun t ht => (j t ht).ex hx (fun x _ _ => by omega), k⟩
/-- the trial's memory alone was written -/
theorem kSt.tr (h : kSt w ad nr g T lts cs acs ams rel fnd Ns) {kn : Nat → Int} (h6 : w2 16 = some (ad 16, ai 500 kn)) (hx : kEx w w2 (fun x : Nat => x = 16)) : kSt w2 ad nr g T lts cs acs ams rel fnd Ns := by
  obtain ⟨a, b, c, d, e, f, i, j, k⟩ := h
  exact ⟨a.ex hx (by omega), b.ex hx (by omega) (by omega) (fun x _ => by omega), c, d.ex hx (by omega), e.ex hx (fun x _ _ => by omega), f.ex hx (fun x _ _ => by omega), ⟨(hx _ (by omega)).trans i.1, kn, h6⟩, fun t ht => (j t ht).ex hx (fun x _ _ => by omega), k⟩
/-- one text alone was written -/
theorem kSt.tx (h : kSt w ad nr g T lts cs acs ams rel fnd Ns) {t : Nat} (ht : t < T) {lt : Nat → Int} {N : Nat → Nat} {c : Int} {ac : Nat → Int} {am : Int} (h1 : kTx w2 ad t lt N c ac am) (h2 : kTi lt N c ac am) (hx : kEx w w2 (fun x : Nat => 200 + 5 * t ≤ x ∧ x ≤ 200 + 5 * t + 4)) : kSt w2 ad nr g T (kup lts t lt) (kup cs t c) (kup acs t ac) (kup ams t am) rel fnd (kup Ns t N) := by
  obtain ⟨a, b, c', d, e, f, i, j, k⟩ := h
  have hnr := b.2.2.2
  refine ⟨a.ex hx (by omega), b.ex hx (by omega) (by omega) (fun x _ => by omega), c', d.ex hx (by omega), e.ex hx (fun x _ _ => by omega), f.ex hx (fun x _ _ => by omega), i.ex hx (by omega) (by omega), fun u hu => ?_, fun u hu => ?_⟩
  · by_cases e : u = t
    · subst e; rw [kup_eq, kup_eq, kup_eq, kup_eq, kup_eq]; exact h1
    · rw [kup_ne e, kup_ne e, kup_ne e, kup_ne e, kup_ne e]; exact (j u hu).ex hx (fun x _ _ => by omega)
  · by_cases e : u = t
    · subst e; rw [kup_eq, kup_eq, kup_eq, kup_eq, kup_eq]; exact h2
    · rw [kup_ne e, kup_ne e, kup_ne e, kup_ne e, kup_ne e]; exact k u hu
/-- the object's own numbers alone were written -/
theorem kSt.po (h : kSt w ad nr g T lts cs acs ams rel fnd Ns) {rel2 fnd2 : Int} (h0 : kPo w2 ad T rel2 fnd2) (hx : kEx w w2 (fun x : Nat => x = 0)) : kSt w2 ad nr g T lts cs acs ams rel2 fnd2 Ns := by
  obtain ⟨a, b, c, d, e, f, i, j, k⟩ := h
  exact ⟨h0, b.ex hx (by omega) (by omega) (fun x _ => by omega), c, d.ex hx (by omega), e.ex hx (fun x _ _ => by omega), f.ex hx (fun x _ _ => by omega), i.ex hx (by omega) (by omega), fun t ht => (j t ht).ex hx (fun x _ _ => by omega), k⟩
theorem kSu.tx (h : kSu w ad nr g T lts cs acs ams rel fnd Ns) {t : Nat} (ht : t < T) {lt : Nat → Int} {N : Nat → Nat} {c : Int} {ac : Nat → Int} {am : Int} (h1 : kTx w2 ad t lt N c ac am) (h2 : kTi lt N c ac am) (h3 : kTr N g nr lt c) (hx : kEx w w2 (fun x : Nat => 200 + 5 * t ≤ x ∧ x ≤ 200 + 5 * t + 4)) : kSu w2 ad nr g T (kup lts t lt) (kup cs t c) (kup acs t ac) (kup ams t am) rel fnd (kup Ns t N) := by
  refine ⟨h.1.tx ht h1 h2 hx, fun u hu => ?_⟩
  by_cases e : u = t
  · subst e; rw [kup_eq, kup_eq, kup_eq]; exact h3
  · rw [kup_ne e, kup_ne e, kup_ne e]; exact h.2 u hu
end KST
theorem kup_id {α : Type} {f : Nat → α} {k : Nat} : kup f k (f k) = f := by
  funext x; unfold kup; split
  · next e => rw [e]
  · rfl
theorem kup_id2 {α : Type} {f : Nat → α} {k : Nat} {v : α} (h : v = f k) : kup f k v = f := by rw [h, kup_id]
/-- counts and sums over the texts -/
noncomputable def m_tc (P : Nat → Prop) : Nat → Int
  | 0 => 0
  | n + 1 => m_tc P n + bI (P n)
noncomputable def m_tf (P : Nat → Prop) (f : Nat → Int) : Nat → Int
  | 0 => 0
  | n + 1 => m_tf P f n + @ite _ (P n) (Classical.propDecidable _) (f n) 0
def m_tsum (f : Nat → Int) : Nat → Int
  | 0 => 0
  | n + 1 => m_tsum f n + f n
theorem m_tc_rg {P : Nat → Prop} : ∀ n : Nat, 0 ≤ m_tc P n ∧ m_tc P n ≤ (n : Int)
  | 0 => by unfold m_tc; omega
  | n + 1 => by
    have h := m_tc_rg (P := P) n
    unfold m_tc bI
    split <;> omega
theorem m_tf_rg {P : Nat → Prop} {f : Nat → Int} (hf : ∀ k, 0 ≤ f k ∧ f k ≤ 55) : ∀ n : Nat, 0 ≤ m_tf P f n ∧ m_tf P f n ≤ 55 * (n : Int)
  | 0 => by unfold m_tf; omega
  | n + 1 => by
    have h := m_tf_rg (P := P) hf n
    have := hf n
    unfold m_tf
    split <;> omega
/-- the new table's entries, text by text -/
theorem m_c55 {c : Int} (h : 1 ≤ c ∧ c ≤ 10) : 0 ≤ c * (c + 1) / 2 ∧ c * (c + 1) / 2 ≤ 55 := by
  obtain ⟨n, rfl⟩ : ∃ n : Nat, c = n := ⟨c.toNat, by omega⟩
  have key : ∀ n : Fin 11, 0 ≤ (n.val : Int) * ((n.val : Int) + 1) / 2 ∧ (n.val : Int) * ((n.val : Int) + 1) / 2 ≤ 55 := by decide +kernel
  exact key ⟨n, by omega⟩
