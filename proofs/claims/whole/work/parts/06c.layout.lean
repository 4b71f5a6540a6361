/-! THE LAYOUT: its cells, and what laying does to them. Mine. -/
/-- number of rules, rules, colours, gaps, depth, letters -/
abbrev kO : Type := Int × (Nat → Int) × (Nat → Int) × (Nat → Int) × Int × Int
abbrev kLk : Nat → Prop := fun x => 7 ≤ x ∧ x ≤ 14
def kLy (w : kW) (al : Nat → Nat) (O : kO) (sk : Nat → Nat → Int) (t : Int) : Prop :=
  w 7 = some (al 0, ob 3 [.ref (al 1), .ref (al 2), .ref (al 3), .ref (al 4), .ref (al 5), .ref (al 6), .ref (al 7), .int (iI t), .int (iI O.1), .int (iI O.2.2.2.2.1), .int (iI O.2.2.2.2.2)]) ∧ w 8 = some (al 1, ai 95 O.2.1) ∧ w 9 = some (al 2, ai 10 O.2.2.1) ∧ w 10 = some (al 3, ai 10 O.2.2.2.1) ∧ w 11 = some (al 4, ai 10 (sk 0)) ∧ w 12 = some (al 5, ai 10 (sk 1)) ∧ w 13 = some (al 6, ai 10 (sk 2)) ∧ w 14 = some (al 7, ai 10 (sk 3))
def m_psh (sk : Nat → Nat → Int) (x : Nat) (s i j L : Int) : Nat → Nat → Int := fun k => if k = 0 then kup (sk 0) x s else if k = 1 then kup (sk 1) x i else if k = 2 then kup (sk 2) x j else if k = 3 then kup (sk 3) x L else sk k
/-- an item that waits -/
def kIt (sk : Nat → Nat → Int) (x : Nat) (s i j L : Int) : Prop := sk 0 x = s ∧ sk 1 x = i ∧ sk 2 x = j ∧ sk 3 x = L
theorem kIt.top {sk : Nat → Nat → Int} {x : Nat} {s i j L : Int} : kIt (m_psh sk x s i j L) x s i j L := ⟨kup_eq, kup_eq, kup_eq, kup_eq⟩
theorem m_psh_old {sk : Nat → Nat → Int} {x y : Nat} {s i j L : Int} (h : y ≠ x) (k : Nat) (hk : k < 4) : m_psh sk x s i j L k y = sk k y := by
  match k, hk with
  | 0, _ => exact kup_ne h
  | 1, _ => exact kup_ne h
  | 2, _ => exact kup_ne h
  | 3, _ => exact kup_ne h
/-- colours i .. j -/
def m_col (f : Nat → Int) (i j v : Int) : Nat → Int := fun x => if i ≤ (x : Int) ∧ (x : Int) ≤ j then v else f x
theorem m_col_0 {f : Nat → Int} {i j v : Int} (h : j < i) : m_col f i j v = f := by funext x; unfold m_col; rw [if_neg (by omega)]
theorem m_col_s {f : Nat → Int} {i j v : Int} (hi : 0 ≤ i) (h : i ≤ j + 1) (hj : 0 ≤ j + 1) : kup (m_col f i j v) (j + 1).toNat v = m_col f i (j + 1) v := by
  funext x; unfold kup m_col
  by_cases e : x = (j + 1).toNat
  · rw [if_pos e, if_pos (by omega)]
  · rw [if_neg e]
    by_cases e2 : i ≤ (x : Int) ∧ (x : Int) ≤ j
    · rw [if_pos e2, if_pos (by omega)]
    · rw [if_neg e2, if_neg (by omega)]
/-- a rule is laid over i .. j -/
def m_lr (g : Nat → Nat → Int) (r : Nat) (i j : Int) (O : kO) : kO := (O.1 + 1, kup O.2.1 O.1.toNat (r : Int), if g 6 r = 0 then O.2.2.1 else m_col O.2.2.1 i j (g 6 r), O.2.2.2.1, O.2.2.2.2.1, O.2.2.2.2.2)
def m_gp (O : kO) (p : Int) (v : Int) : kO := (O.1, O.2.1, O.2.2.1, kup O.2.2.2.1 p.toNat v, O.2.2.2.2.1, O.2.2.2.2.2)
def m_le (O : kO) (L : Int) : kO := (O.1, O.2.1, O.2.2.1, O.2.2.2.1, if O.2.2.2.2.1 < L then L else O.2.2.2.2.1, O.2.2.2.2.2 + 1)
def m_ow (O : kO) : kO := (0, O.2.1, m_fl O.2.2.1 0 ((10 : Nat) : Int), m_fl O.2.2.2.1 0 ((10 : Nat) : Int), 0, 0)
theorem kSp.lk {w w2 : kW} {q a la na : Nat} {lt : Nat → Int} {N : Nat → Nat} {c : Int} (h : kSp w q a la na lt N c) (hw : kEx w w2 kLk) (hq : q + 2 < 7 ∨ 14 < q) : kSp w2 q a la na lt N c := h.ex hw (by show ¬ (7 ≤ q ∧ q ≤ 14); omega) (by show ¬ (7 ≤ q + 1 ∧ q + 1 ≤ 14); omega) (by show ¬ (7 ≤ q + 2 ∧ q + 2 ≤ 14); omega)
theorem kGr.lk {w w2 : kW} {ag ap nr : Nat} {ra : Nat → Nat} {g : Nat → Nat → Int} (h : kGr w ag ap nr ra g) (hw : kEx w w2 kLk) : kGr w2 ag ap nr ra g := h.ex hw (by show ¬ (7 ≤ 1 ∧ 1 ≤ 14); omega) (by show ¬ (7 ≤ 2 ∧ 2 ≤ 14); omega) (fun i _ => by show ¬ (7 ≤ 100 + i ∧ 100 + i ≤ 14); omega)
theorem kEx.rfl {w : kW} {ks : Nat → Prop} : kEx w w ks := fun _ _ => Eq.refl _
theorem kEx.trans {w w2 w3 : kW} {ks : Nat → Prop} (h : kEx w w2 ks) (h2 : kEx w2 w3 ks) : kEx w w3 ks := fun x hx => (h2 x hx).trans (h x hx)
def m_si (f : Nat → Int) : Nat → Int
  | 0 => 0
  | n + 1 => m_si f n + f n
/-- the sign at an index: n places still, from place p on, y signs so far -/
def m_sg (ga lt : Nat → Int) (x : Int) : Nat → Nat → Int → Int
  | 0, _, _ => 32
  | n + 1, p, y => if x < y + ga p then 32 else if x = y + ga p then 97 + lt p else m_sg ga lt x n (p + 1) (y + ga p + 1)
theorem m_sg_u {ga lt : Nat → Int} {x p y : Int} (h0 : 0 ≤ p) (hp : p < 10) : m_sg ga lt x (10 - p).toNat p.toNat y = if x < y + ga p.toNat then 32 else if x = y + ga p.toNat then 97 + lt p.toNat else m_sg ga lt x (10 - (p + 1)).toNat (p + 1).toNat (y + ga p.toNat + 1) := by
  rw [show (10 - p).toNat = (10 - (p + 1)).toNat + 1 by omega]
  conv => lhs; unfold m_sg
  rw [show (p + 1).toNat = p.toNat + 1 by omega]
theorem m_sg_a {ga lt : Nat → Int} {x p y : Int} (h0 : 0 ≤ p) (hp : p < 10) (h : x < y + ga p.toNat) : m_sg ga lt x (10 - p).toNat p.toNat y = 32 := by rw [m_sg_u h0 hp, if_pos h]
theorem m_sg_b {ga lt : Nat → Int} {x p y : Int} (h0 : 0 ≤ p) (hp : p < 10) (h : x = y + ga p.toNat) : m_sg ga lt x (10 - p).toNat p.toNat y = 97 + lt p.toNat := by rw [m_sg_u h0 hp, if_neg (by omega), if_pos h]
theorem m_sg_c {ga lt : Nat → Int} {x p y : Int} (h0 : 0 ≤ p) (hp : p < 10) (h : ¬ x < y + ga p.toNat) (h2 : ¬ x = y + ga p.toNat) : m_sg ga lt x (10 - p).toNat p.toNat y = m_sg ga lt x (10 - (p + 1)).toNat (p + 1).toNat (y + ga p.toNat + 1) := by rw [m_sg_u h0 hp, if_neg h, if_neg h2]
