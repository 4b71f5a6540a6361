/-! THE HEAP, CALL AND END ROWS OF THE LAYER. Mine. -/
abbrev ai (N : Nat) (f : Nat → Int) : kC := .inl (0, N, .inl (fun j => iI (f j)))
abbrev az (N : Nat) (f : Nat → Int) : kC := .inl (1, N, .inl (fun j => iI (f j)))
abbrev ac (N : Nat) (f : Nat → Int) : kC := .inl (2, N, .inl (fun j => iI (f j)))
abbrev al (N : Nat) (f : Nat → Int) : kC := .inl (3, N, .inr (.inl (fun j => lI (f j))))
abbrev ad (N : Nat) (f : Nat → UInt64) : kC := .inl (4, N, .inr (.inr (.inr (.inl f))))
abbrev aq (t N : Nat) (f : Nat → Option Nat) : kC := .inl (t, N, .inr (.inr (.inr (.inr f))))
abbrev ob (ci : Nat) (fs : List Value) : kC := .inr (ci, fs)
def kup {α : Type} (f : Nat → α) (k : Nat) (x : α) : Nat → α := fun j => if j = k then x else f j
theorem kup_eq {α : Type} {f : Nat → α} {k : Nat} {x : α} : kup f k x k = x := if_pos rfl
theorem kup_ne {α : Type} {f : Nat → α} {k j : Nat} {x : α} (h : j ≠ k) : kup f k x j = f j := if_neg h
theorem kup_at {α : Type} {f : Nat → α} {k j : Nat} {x : α} : kup f k x j = if j = k then x else f j := rfl
section KHEAP
variable {E : kE} {X : kX} {cc : ByteArray} {own : String} {nL k n pc : Nat} {rm : Room} {w : kW} {lv : List (Nat × Value)} {st : List Value}
theorem k_get (h : kOk E X cc own nL rm) {index ci j a : Nat} {fs : List Value} {v : Value} (q : Nat) (hf : kFd own index ci j) (he : w q = some (a, .inr (ci, fs))) (hv : fs[j]? = some v) (hdg : decode cc pc = .ok (.getfield index, 3)) (kk : kG E X nL k n w (pc + 3) lv (v :: st)) : kG E X nL k n w pc lv (.ref a :: st) := by
  obtain ⟨C, T, N, ty, hc, hin, hj, hl, hty, hnm⟩ := hf
  intro H locs ls hP hS hls
  exact va_get (D := E.1) h.1 h.2.1 h.2.2.2.2.1 hin h.2.2.2.1 h.2.2.2.2.2.1.1 (hP.one he) 0 rfl hc j hj (h.2.2.2.2.1 _ hl) (fun _ h9 => h9) hv hdg (kk H locs ls hP hS hls)
theorem k_put (h : kOk E X cc own nL rm) {index ci j a : Nat} {C9 : String} {fs fs' : List Value} {v : Value} {ty1 : FieldType} (q : Nat) (hf : kFd own index ci j) (hF : kFt C9 ci j ty1 false) (he : w q = some (a, .inr (ci, fs))) (hn : narrow ty1 v = v) (hfit : fits ty1 v = true) (hl : j < fs.length) (hset : fs.set j v = fs') (hdg : decode cc pc = .ok (.putfield index, 3)) (kk : kG E X nL k n (kset w q a (.inr (ci, fs'))) (pc + 3) lv st) : kG E X nL k n w pc lv (v :: .ref a :: st) := by
  subst hset
  obtain ⟨C, T, N, ty, hc, hin, hj, hlk, hty, hnm⟩ := hf
  obtain ⟨hd, hfin, -⟩ := hF C T N hc
  intro H locs ls hP hS hls
  have hts := h.2.2.2.2.1
  have hown := h.2.2.2.1
  have hK := h.2.2.2.2.2.1.1
  have hap := va_apart (own := own) hts hin ty hty hnm hK hc
  obtain ⟨r, h1, cell, q1, q2, q3, q4⟩ := (hP.1 _ _ _ he).1
  have hr : r = (C, T, N) := Option.some.inj (h1.symm.trans hc)
  subst hr
  obtain ⟨hS1, hfc, kC, hkC, hkind⟩ := hK.1 ci _ hc
  obtain ⟨cf, kf, fi, f, hi, hsl⟩ := hS1 j hj
  have hlay := hts _ (hin _ (u_in_lay hj))
  unfold u_lay at hlay
  rw [if_neg (by rw [hfin]; decide)] at hlay
  have hst := (u_facts hfc hkC (u_lays hts hin hj) hi).1
  have h6 := u_store hfc hkC hkind hlay hi hd hn hfit
  refine W.putK h.1 h.2.1 (f := f) ⟨hown, hts _ hlk, ⟨_, _, _, hi⟩, hst⟩ (by rw [q2]; exact h6) q1 q3 (by rw [hsl]; exact k2_hasslot (q4 j hj)) rfl rfl hdg fun H' e1 e2 e3 => ?_
  rw [hsl] at e1 ⊢
  exact kk H' _ ls (hP.set he ⟨_, hc, t_OB.to (V := updV (vp_V fs) j v) ⟨_, e1, q2, q3, t_set q4 hap hj v⟩ (fun i _ => vp_updV_set hl v i)⟩ e3) (hS.put e2 e3 (hP.1 _ _ _ he).2) hls
theorem k_putF (h : kOk E X cc own nL rm) (hinit : (kXme X).name = "<init>") {index ci j a : Nat} {fs fs' : List Value} {v : Value} {ty1 : FieldType} (q : Nat) (hf : kFd own index ci j) (hF : kFt own ci j ty1 true) (he : w q = some (a, .inr (ci, fs))) (hn : narrow ty1 v = v) (hfit : fits ty1 v = true) (hl : j < fs.length) (hset : fs.set j v = fs') (hdg : decode cc pc = .ok (.putfield index, 3)) (kk : kG E X nL k n (kset w q a (.inr (ci, fs'))) (pc + 3) lv st) : kG E X nL k n w pc lv (v :: .ref a :: st) := by
  subst hset
  obtain ⟨C, T, N, ty, hc, hin, hj, hlk, hty, hnm⟩ := hf
  obtain ⟨hd, hfin, hdecl⟩ := hF C T N hc
  intro H locs ls hP hS hls
  have hts := h.2.2.2.2.1
  have hown := h.2.2.2.1
  have hK := h.2.2.2.2.2.1.1
  have hap := va_apart (own := own) hts hin ty hty hnm hK hc
  obtain ⟨r, h1, cell, q1, q2, q3, q4⟩ := (hP.1 _ _ _ he).1
  have hr : r = (C, T, N) := Option.some.inj (h1.symm.trans hc)
  subst hr
  obtain ⟨hS1, hfc, kC, hkC, hkind⟩ := hK.1 ci _ hc
  obtain ⟨cf, kf, fi, f, hi, hsl⟩ := hS1 j hj
  have hlay := hts _ (hin _ (u_in_lay hj))
  unfold u_lay at hlay
  rw [if_pos hfin] at hlay
  have hst := (u_facts hfc hkC (u_lays hts hin hj) hi).1
  have hcf : (kXm X).cls = cf := by
    obtain ⟨_, _, c', _, _, _, -, -, hf', -, -, -, hown2, -⟩ := Cond.laysFinal_spec hlay
    have e1 : c' = cf := by have := hi.symm.trans hf'; simp at this; exact this.1.symm
    rw [hdecl] at hown2
    rw [← e1]; exact Option.some.inj (hown.symm.trans hown2)
  have h6 := u_fits hfc hkC hkind (Or.inr hlay) hi hd hn hfit
  refine W.putFinK h.1 h.2.1 hown (hts _ hlk) hi hst hcf hinit (by rw [q2]; exact h6) q1 q3 (by rw [hsl]; exact k2_hasslot (q4 j hj)) rfl rfl hdg fun H' e1 e2 e3 => ?_
  rw [hsl] at e1 ⊢
  exact kk H' _ ls (hP.set he ⟨_, hc, t_OB.to (V := updV (vp_V fs) j v) ⟨_, e1, q2, q3, t_set q4 hap hj v⟩ (fun i _ => vp_updV_set hl v i)⟩ e3) (hS.put e2 e3 (hP.1 _ _ _ he).2) hls
theorem k_iald (h : kOk E X cc own nL rm) {a N : Nat} {f : Nat → Int} {z : Int} (q : Nat) (ha : w q = some (a, ai N f)) (hz : 0 ≤ z ∧ z < N) (hN : N < 2147483648) (hdg : decode cc pc = .ok (.iaload, 1)) (kk : kG E X nL k n w (pc + 1) lv (.int (iI (f z.toNat)) :: st)) : kG E X nL k n w pc lv (.int (iI z) :: .ref a :: st) := fun H locs ls hP hS hls =>
  va_iald (D := E.1) h.1 h.2.1 h.2.2.2.2.2.1.1 (hP.one ha) 0 0 rfl rfl (iI_in hz hN) hdg (by have := kk H locs ls hP hS hls; rw [iI_cl (by omega)]; exact this)
theorem k_zald (h : kOk E X cc own nL rm) {a N : Nat} {f : Nat → Int} {z : Int} (q : Nat) (ha : w q = some (a, az N f)) (hz : 0 ≤ z ∧ z < N) (hN : N < 2147483648) (hdg : decode cc pc = .ok (.baload, 1)) (kk : kG E X nL k n w (pc + 1) lv (.int (iI (f z.toNat)) :: st)) : kG E X nL k n w pc lv (.int (iI z) :: .ref a :: st) := fun H locs ls hP hS hls =>
  va_zald (D := E.1) h.1 h.2.1 h.2.2.2.2.2.1.1 (hP.one ha) 0 1 rfl rfl (iI_in hz hN) hdg (by have := kk H locs ls hP hS hls; rw [iI_cl (by omega)]; exact this)
theorem k_cald (h : kOk E X cc own nL rm) {a N : Nat} {f : Nat → Int} {z : Int} (q : Nat) (ha : w q = some (a, ac N f)) (hz : 0 ≤ z ∧ z < N) (hN : N < 2147483648) (hdg : decode cc pc = .ok (.caload, 1)) (kk : kG E X nL k n w (pc + 1) lv (.int (iI (f z.toNat)) :: st)) : kG E X nL k n w pc lv (.int (iI z) :: .ref a :: st) := fun H locs ls hP hS hls =>
  va_cald (D := E.1) h.1 h.2.1 h.2.2.2.2.2.1.1 (hP.one ha) 0 2 rfl rfl (iI_in hz hN) hdg (by have := kk H locs ls hP hS hls; rw [iI_cl (by omega)]; exact this)
theorem k_lald (h : kOk E X cc own nL rm) {a N : Nat} {f : Nat → Int} {z : Int} (q : Nat) (ha : w q = some (a, al N f)) (hz : 0 ≤ z ∧ z < N) (hN : N < 2147483648) (hdg : decode cc pc = .ok (.laload, 1)) (kk : kG E X nL k n w (pc + 1) lv (.long (lI (f z.toNat)) :: st)) : kG E X nL k n w pc lv (.int (iI z) :: .ref a :: st) := fun H locs ls hP hS hls =>
  va_lald (D := E.1) h.1 h.2.1 h.2.2.2.2.2.1.1 (hP.one ha) 0 3 rfl rfl (iI_in hz hN) hdg (by have := kk H locs ls hP hS hls; rw [iI_cl (by omega)]; exact this)
theorem k_dald (h : kOk E X cc own nL rm) {a N : Nat} {f : Nat → UInt64} {z : Int} (q : Nat) (ha : w q = some (a, ad N f)) (hz : 0 ≤ z ∧ z < N) (hN : N < 2147483648) (hdg : decode cc pc = .ok (.daload, 1)) (kk : kG E X nL k n w (pc + 1) lv (.double (f z.toNat) :: st)) : kG E X nL k n w pc lv (.int (iI z) :: .ref a :: st) := fun H locs ls hP hS hls =>
  va_dald (D := E.1) h.1 h.2.1 h.2.2.2.2.2.1.1 (hP.one ha) 0 4 rfl rfl (iI_in hz hN) hdg (by have := kk H locs ls hP hS hls; rw [iI_cl (by omega)]; exact this)
theorem k_aald (h : kOk E X cc own nL rm) {a N t : Nat} {C : String} {f : Nat → Option Nat} {z : Int} (q : Nat) (ha : w q = some (a, aq t N f)) (ht : (kT E.2.1)[t]? = some (E.2.1 t, .object C)) (hz : 0 ≤ z ∧ z < N) (hN : N < 2147483648) (hdg : decode cc pc = .ok (.aaload, 1)) (kk : kG E X nL k n w (pc + 1) lv (va_rf (f z.toNat) :: st)) : kG E X nL k n w pc lv (.int (iI z) :: .ref a :: st) := fun H locs ls hP hS hls =>
  va_aldq (D := E.1) h.1 h.2.1 h.2.2.2.2.2.1.1 (hP.one ha) 0 t rfl ht (iI_in hz hN) hdg (by have := kk H locs ls hP hS hls; rw [iI_cl (by omega)]; exact this)
theorem k_alen (h : kOk E X cc own nL rm) {a t : Nat} {x : vp_A} {ty : FieldType} (q : Nat) (ha : w q = some (a, .inl (t, x))) (ht : (kT E.2.1)[t]? = some (E.2.1 t, ty)) (hdg : decode cc pc = .ok (.arraylength, 1)) (kk : kG E X nL k n w (pc + 1) lv (.int (iI (x.1 : Int)) :: st)) : kG E X nL k n w pc lv (.ref a :: st) := fun H locs ls hP hS hls =>
  va_alen (D := E.1) h.1 h.2.1 h.2.2.2.2.2.1.1 (hP.one ha) 0 t rfl ht (iI_nat x.1).symm hdg (kk H locs ls hP hS hls)
theorem k_iast (h : kOk E X cc own nL rm) {a N : Nat} {f : Nat → Int} {z : Int} {x : Int} (q : Nat) (ha : w q = some (a, ai N f)) (hz : 0 ≤ z ∧ z < N) (hN : N < 2147483648) (hdg : decode cc pc = .ok (.iastore, 1)) (kk : kG E X nL k n (kset w q a (ai N (kup f z.toNat x))) (pc + 1) lv st) : kG E X nL k n w pc lv (.int (iI x) :: .int (iI z) :: .ref a :: st) := by
  intro H locs ls hP hS hls
  refine W.iast h.1 h.2.1 (hP.1 _ _ _ ha).1 ((h.2.2.2.2.2.1.1.2 0 _ rfl).1 N (fun j => .int (iI (f j)))) (fun q => by cases q) (by show ¬ (iI z < 0 ∨ (arrV _ _ _).slots.size ≤ _); rw [arrV_size]; exact iI_in hz hN) rfl rfl hdg fun H1 e z1 oq => ?_
  refine kk H1 _ ls (hP.set ha ?_ oq) (hS.put z1 oq (hP.1 _ _ _ ha).2) hls
  show H1[a]? = some (vp_cell _ _)
  rw [e, iI_cl (by omega)]
  show some ((vp_cell (E.2.1 0) _).setSlot _ _) = _
  rw [vp_cell_i, vp_cell_i, arrV_store]
  congr 2
  funext j
  by_cases hq : j = z.toNat
  · subst hq
    simp [updV, kup]
  · simp [updV, kup, hq]
theorem k_zast (h : kOk E X cc own nL rm) {a N : Nat} {f : Nat → Int} {z : Int} {x : Int} (q : Nat) (ha : w q = some (a, az N f)) (hz : 0 ≤ z ∧ z < N) (hN : N < 2147483648) (hx : vp_nar .boolean (iI x) = iI x) (hdg : decode cc pc = .ok (.bastore, 1)) (kk : kG E X nL k n (kset w q a (az N (kup f z.toNat x))) (pc + 1) lv st) : kG E X nL k n w pc lv (.int (iI x) :: .int (iI z) :: .ref a :: st) := by
  intro H locs ls hP hS hls
  refine W.zast h.1 h.2.1 (hP.1 _ _ _ ha).1 ((h.2.2.2.2.2.1.1.2 1 _ rfl).1 N (fun j => .int (iI (f j)))) (fun q => by cases q) (by show ¬ (iI z < 0 ∨ (arrV _ _ _).slots.size ≤ _); rw [arrV_size]; exact iI_in hz hN) rfl rfl hdg fun H1 e z1 oq => ?_
  refine kk H1 _ ls (hP.set ha ?_ oq) (hS.put z1 oq (hP.1 _ _ _ ha).2) hls
  show H1[a]? = some (vp_cell _ _)
  rw [e, iI_cl (by omega)]
  show some ((vp_cell (E.2.1 1) _).setSlot _ _) = _
  rw [vp_cell_i, vp_cell_i, arrV_store]
  congr 2
  funext j
  by_cases hq : j = z.toNat
  · subst hq
    simp [updV, kup]; first | exact hx | (simpa [vp_nar, narrow] using hx) | exact congrArg Value.int hx
  · simp [updV, kup, hq]
theorem k_cast (h : kOk E X cc own nL rm) {a N : Nat} {f : Nat → Int} {z : Int} {x : Int} (q : Nat) (ha : w q = some (a, ac N f)) (hz : 0 ≤ z ∧ z < N) (hN : N < 2147483648) (hx : vp_nar .char (iI x) = iI x) (hdg : decode cc pc = .ok (.castore, 1)) (kk : kG E X nL k n (kset w q a (ac N (kup f z.toNat x))) (pc + 1) lv st) : kG E X nL k n w pc lv (.int (iI x) :: .int (iI z) :: .ref a :: st) := by
  intro H locs ls hP hS hls
  refine W.cast h.1 h.2.1 (hP.1 _ _ _ ha).1 ((h.2.2.2.2.2.1.1.2 2 _ rfl).1 N (fun j => .int (iI (f j)))) (fun q => by cases q) (by show ¬ (iI z < 0 ∨ (arrV _ _ _).slots.size ≤ _); rw [arrV_size]; exact iI_in hz hN) rfl rfl hdg fun H1 e z1 oq => ?_
  refine kk H1 _ ls (hP.set ha ?_ oq) (hS.put z1 oq (hP.1 _ _ _ ha).2) hls
  show H1[a]? = some (vp_cell _ _)
  rw [e, iI_cl (by omega)]
  show some ((vp_cell (E.2.1 2) _).setSlot _ _) = _
  rw [vp_cell_i, vp_cell_i, arrV_store]
  congr 2
  funext j
  by_cases hq : j = z.toNat
  · subst hq
    simp [updV, kup]; first | exact hx | (simpa [vp_nar, narrow] using hx) | exact congrArg Value.int hx
  · simp [updV, kup, hq]
theorem k_last (h : kOk E X cc own nL rm) {a N : Nat} {f : Nat → Int} {z : Int} {x : Int} (q : Nat) (ha : w q = some (a, al N f)) (hz : 0 ≤ z ∧ z < N) (hN : N < 2147483648) (hdg : decode cc pc = .ok (.lastore, 1)) (kk : kG E X nL k n (kset w q a (al N (kup f z.toNat x))) (pc + 1) lv st) : kG E X nL k n w pc lv (.long (lI x) :: .int (iI z) :: .ref a :: st) := by
  intro H locs ls hP hS hls
  refine W.last h.1 h.2.1 (hP.1 _ _ _ ha).1 ((h.2.2.2.2.2.1.1.2 3 _ rfl).1 N (fun j => .long (lI (f j)))) (fun q => by cases q) (by show ¬ (iI z < 0 ∨ (arrV _ _ _).slots.size ≤ _); rw [arrV_size]; exact iI_in hz hN) rfl rfl hdg fun H1 e z1 oq => ?_
  refine kk H1 _ ls (hP.set ha ?_ oq) (hS.put z1 oq (hP.1 _ _ _ ha).2) hls
  show H1[a]? = some (vp_cell _ _)
  rw [e, iI_cl (by omega)]
  show some ((vp_cell (E.2.1 3) _).setSlot _ _) = _
  rw [vp_cell_l, vp_cell_l, arrV_store]
  congr 2
  funext j
  by_cases hq : j = z.toNat
  · subst hq
    simp [updV, kup]
  · simp [updV, kup, hq]
theorem k_dast (h : kOk E X cc own nL rm) {a N : Nat} {f : Nat → UInt64} {z : Int} {x : UInt64} (q : Nat) (ha : w q = some (a, ad N f)) (hz : 0 ≤ z ∧ z < N) (hN : N < 2147483648) (hdg : decode cc pc = .ok (.dastore, 1)) (kk : kG E X nL k n (kset w q a (ad N (kup f z.toNat x))) (pc + 1) lv st) : kG E X nL k n w pc lv (.double x :: .int (iI z) :: .ref a :: st) := by
  intro H locs ls hP hS hls
  refine W.dast h.1 h.2.1 (hP.1 _ _ _ ha).1 ((h.2.2.2.2.2.1.1.2 4 _ rfl).1 N (fun j => .double (f j))) (fun q => by cases q) (by show ¬ (iI z < 0 ∨ (arrV _ _ _).slots.size ≤ _); rw [arrV_size]; exact iI_in hz hN) rfl rfl hdg fun H1 e z1 oq => ?_
  refine kk H1 _ ls (hP.set ha ?_ oq) (hS.put z1 oq (hP.1 _ _ _ ha).2) hls
  show H1[a]? = some (vp_cell _ _)
  rw [e, iI_cl (by omega)]
  show some ((vp_cell (E.2.1 4) _).setSlot _ _) = _
  rw [vp_cell_d, vp_cell_d, arrV_store]
  congr 2
  funext j
  by_cases hq : j = z.toNat
  · subst hq
    simp [updV, kup]
  · simp [updV, kup, hq]
theorem k_aast (h : kOk E X cc own nL rm) {a N t v ci : Nat} {r : vw_C} {vs : List Value} {f : Nat → Option Nat} {z : Int} (q qv : Nat) (ha : w q = some (a, aq t N f)) (ht : (kT E.2.1)[t]? = some (E.2.1 t, .object r.1)) (hv : w qv = some (v, .inr (ci, vs))) (hc : vwCl[ci]? = some r) (hz : 0 ≤ z ∧ z < N) (hN : N < 2147483648) (hdg : decode cc pc = .ok (.aastore, 1)) (kk : kG E X nL k n (kset w q a (aq t N (kup f z.toNat (some v)))) (pc + 1) lv st) : kG E X nL k n w pc lv (.ref v :: .int (iI z) :: .ref a :: st) := by
  intro H locs ls hP hS hls
  have hin := iI_in hz hN
  have hlt : (iI z).toNatClampNeg < N := Nat.not_le.mp fun q => hin (Or.inr q)
  have h0 : ¬ iI z < 0 := fun q => hin (Or.inl q)
  have hK := h.2.2.2.2.2.1.1
  obtain ⟨r', hr', cellV, g1, g2, g3, -⟩ := (hP.1 _ _ _ hv).1
  have hcls := (hK.1 ci r hc).2
  obtain ⟨kA1, comp, k1, k2, k3, -⟩ := (hK.2 t _ ht).2
  have hcomp : comp = E.1.1 ci := Option.some.inj (k3.symm.trans hcls.1)
  subst hcomp
  obtain ⟨kC, hkC, -⟩ := hcls.2
  refine W.aast h.1 h.2.1 (hP.1 _ _ _ ha).1 (fun q h => by cases h) (fun h => by cases h) k1 k2 rfl hkC ⟨h0, by show _ < (arrV _ _ _).slots.size; rw [arrV_size]; exact hlt⟩ g1 (fun q h => by rw [g3] at h; cases h) (by rw [g2]; exact hkC) (by rw [g2]; exact va_assign hcls) rfl rfl hdg fun H1 e z1 oq => ?_
  refine kk H1 _ ls (hP.set ha ?_ oq) (hS.put z1 oq (hP.1 _ _ _ ha).2) hls
  show H1[a]? = some (vp_cell _ _)
  rw [e, iI_cl (by omega)]
  show some ((vp_cell (E.2.1 t) _).setSlot _ _) = _
  rw [vp_cell_q, vp_cell_q, arrV_store]
  congr 2
  funext j
  by_cases hq : j = z.toNat
  · subst hq
    simp [updV, kup, va_rf]
  · simp [updV, kup, hq]
theorem k_new (h : kOk E X cc own nL rm) {index ci N : Nat} {C : String} {T : u_T} {ty : Nat → FieldType} {fs : List Value} (q : Nat) (hc : vwCl[ci]? = some (C, T, N)) (hin : ∀ w ∈ u_ws C T N, w ∈ kAL) (hty : ∀ k, k < N → parseFieldDescriptor (T k).2.2.1 = some (ty k)) (hcl : Cond.classLink own index C ∈ kAL) (hinst : Cond.instantiable C N ∈ kAL) (hini : Cond.initialized C ∈ kAL) (hfs : ∀ j, j < N → defaultValue (ty j) = vp_V fs j) (hr : k + 1 ≤ rm.cells ∧ n + N ≤ rm.slots) (hdg : decode cc pc = .ok (.new index, 3)) (kk : ∀ a : Nat, kG E X nL (k + 1) (n + N) (kset w q a (.inr (ci, fs))) (pc + 3) lv (.ref a :: st)) : kG E X nL k n w pc lv st := by
  intro H locs ls hP hS hls
  have hts := h.2.2.2.2.1
  have hK := h.2.2.2.2.2.1.1
  have hR : kXR X = rm := h.2.2.2.2.2.2.2.2
  have hE := h.2.2.2.2.2.1.2.2.2.2.2.2
  have hKn := hK.1 ci _ hc
  refine W.newcK h.1 h.2.1 h.2.2.2.1 (hts _ hcl) (hts _ hinst) (hts _ hini) rfl hdg (by rw [hR]; exact hr.1) (by rw [hR]; exact hr.2) hKn.2.1 rfl fun H1 kC hkC e1 z1 o1 => ?_
  refine kk H.size H1 locs ls (hP.push rfl (Nat.le_trans hE hS.1) ⟨_, hc, (u_born ty hts hin hKn hkC e1 hty).to hfs⟩ o1) ⟨Nat.le_trans hS.1 (by omega), fun x h1 h2 => (o1 x (Nat.lt_of_lt_of_le h1 hS.1)).trans (hS.2.1 x h1 h2), hS.2.2⟩ hls
theorem k_newa (h : kOk E X cc own nL rm) {atype : ArrayType} {t N : Nat} {z : Int} {a0 : vp_A} (q : Nat) (harr : Cond.arrayClass (newarray.typeOf atype) ∈ kAL) (ht : (kT E.2.1)[t]? = some (E.2.1 t, newarray.typeOf atype)) (ha0 : ∀ cA : ClassId, vp_cell cA a0 = arrV cA N (fun _ => defaultValue (newarray.typeOf atype))) (hz : z = (N : Int)) (hN : N < 100000) (hr : k + 1 ≤ rm.cells ∧ n + N ≤ rm.slots) (hdg : decode cc pc = .ok (.newarray atype, 2)) (kk : ∀ a : Nat, kG E X nL (k + 1) (n + N) (kset w q a (.inl (t, a0))) (pc + 2) lv (.ref a :: st)) : kG E X nL k n w pc lv (.int (iI z) :: st) := by
  subst hz
  intro H locs ls hP hS hls
  have hts := h.2.2.2.2.1
  have hK := h.2.2.2.2.2.1.1
  have hR : kXR X = rm := h.2.2.2.2.2.2.2.2
  have hE := h.2.2.2.2.2.1.2.2.2.2.2.2
  refine va_newaK h.1 h.2.1 (hts _ harr) rfl hdg rfl (by rw [iI_0, iI_lt (by omega) (by omega)]; omega) (N := N) (by rw [iI_cl (by omega)]; rfl) (by cases atype <;> (simp [componentBytes, newarray.typeOf]; try omega)) (by rw [hR]; exact hr.1) (by rw [hR]; exact hr.2) rfl fun H1 cA e1 z1 o1 hAr hNm => ?_
  have hcA : cA = E.2.1 t := by
    have h2 := (hK.2 t _ ht).2
    have h3 : (kXs X).vm.findClass ("[" ++ (newarray.typeOf atype).toString) = some (E.2.1 t) := by
      cases atype <;> exact h2
    exact Option.some.inj (hNm.symm.trans h3)
  subst hcA
  refine kk H.size H1 locs ls (hP.push rfl (Nat.le_trans hE hS.1) ?_ o1) ⟨Nat.le_trans hS.1 (by omega), fun x h1 h2 => (o1 x (Nat.lt_of_lt_of_le h1 hS.1)).trans (hS.2.1 x h1 h2), hS.2.2⟩ hls
  show H1[H.size]? = some (vp_cell _ _)
  rw [ha0]
  exact e1
theorem k_anewa (h : kOk E X cc own nL rm) {index t N : Nat} {C : String} {z : Int} (q : Nat) (hcl : Cond.classLink own index C ∈ kAL) (hover : va_AO C (kXs X)) (ht : (kT E.2.1)[t]? = some (E.2.1 t, .object C)) (hz : z = (N : Int)) (hN : N < 100000) (hr : k + 1 ≤ rm.cells ∧ n + N ≤ rm.slots) (hdg : decode cc pc = .ok (.anewarray index, 3)) (kk : ∀ a : Nat, kG E X nL (k + 1) (n + N) (kset w q a (aq t N (fun _ => none))) (pc + 3) lv (.ref a :: st)) : kG E X nL k n w pc lv (.int (iI z) :: st) := by
  subst hz
  intro H locs ls hP hS hls
  have hts := h.2.2.2.2.1
  have hK := h.2.2.2.2.2.1.1
  have hR : kXR X = rm := h.2.2.2.2.2.2.2.2
  have hE := h.2.2.2.2.2.1.2.2.2.2.2.2
  refine W.anew h.1 h.2.1 h.2.2.2.1 (hts _ hcl) (va_AO.use hover) rfl hdg rfl (by rw [iI_0, iI_lt (by omega) (by omega)]; omega) (by rw [iI_cl (by omega)]; omega) (by rw [hR]; exact hr.1) (by rw [hR, iI_cl (by omega)]; exact hr.2) fun cA kA1 comp f1 f2 f3 f4 => ?_
  rw [iI_cl (by omega)]
  have hcA : cA = E.2.1 t := by
    obtain ⟨kA2, comp2, g1, g2, g3, g4⟩ := (hK.2 t _ ht).2
    exact Option.some.inj (f1.symm.trans g4)
  subst hcA
  generalize hH1 : H.push ({ cls := E.2.1 t, slots := Array.replicate (N : Int).toNat .null, vm := .none } : Cell) = H1
  have z1 : H1.size = H.size + 1 := by rw [← hH1, Array.size_push]
  have e1 : H1[H.size]? = some (arrV (E.2.1 t) N (fun _ => .null)) := by rw [← hH1, Array.getElem?_push_size, ← arrV_new]; rfl
  have o1 : ∀ q : Nat, q < H.size → H1[q]? = H[q]? := fun q hq => by rw [← hH1, Array.getElem?_push, if_neg (Nat.ne_of_lt hq)]
  refine kk H.size H1 locs ls (hP.push rfl (Nat.le_trans hE hS.1) ?_ o1) ⟨Nat.le_trans hS.1 (by omega), fun x h1 h2 => (o1 x (Nat.lt_of_lt_of_le h1 hS.1)).trans (hS.2.1 x h1 h2), hS.2.2⟩ hls
  show H1[H.size]? = some (vp_cell _ _)
  rw [vp_cell_q]
  exact e1
theorem k_objInit (h : kOk E X cc own nL rm) {index a : Nat} (hlink : Cond.methodLink own index objectInit ∈ kAL) (hin : Cond.instanceMethod objectInit ∈ kAL) (hcode : Cond.code objectInit ⟨#[0xb1]⟩ 1 none ∈ kAL) (hr : 1 ≤ rm.frames ∧ (st.map fun v => v.category).sum + 12 ≤ rm.locals) (hdg : decode cc pc = .ok (.invokespecial index, 3)) (kk : kG E X nL k n w (pc + 3) lv st) : kG E X nL k n w pc lv (.ref a :: st) := by
  intro H locs ls hP hS hls
  have hts := h.2.2.2.2.1
  have hR : kXR X = rm := h.2.2.2.2.2.2.2.2
  refine W.objInit h.1 h.2.1 h.2.2.2.1 (hts _ hlink) (hts _ hin) (hts _ hcode) rfl (by rw [h.2.2.1]; exact hls.1) rfl hdg (by rw [hR]; exact hr.1) (by rw [hR]; show 2 * 0 + _ + 12 ≤ _; omega) ?_
  exact kk H locs ls hP hS hls
theorem k_max (h : kOk E X cc own nL rm) {index : Nat} {a b : Int} (ha : -2147483648 ≤ a ∧ a < 2147483648) (hb : -2147483648 ≤ b ∧ b < 2147483648) (hlink : Cond.methodLink own index Lib.Math.max.name ∈ kAL) (hstat : Cond.static Lib.Math.max.name ∈ kAL) (hini : Cond.initialized "java/lang/Math" ∈ kAL) (hcode : Cond.code Lib.Math.max.name Lib.Math.max.code 2 (some .int) ∈ kAL) (hr : 1 ≤ rm.frames ∧ (st.map fun v => v.category).sum + 13 ≤ rm.locals ∧ k ≤ rm.cells ∧ n ≤ rm.slots) (hdg : decode cc pc = .ok (.invokestatic index, 3)) (kk : kG E X nL k n w (pc + 3) lv (.int (iI (if a < b then b else a)) :: st)) : kG E X nL k n w pc lv (.int (iI b) :: .int (iI a) :: st) := by
  intro H locs ls hP hS hls
  have hts := h.2.2.2.2.1
  have hR : kXR X = rm := h.2.2.2.2.2.2.2.2
  refine va_mmax h.1 h.2.1 (h.2.2.1.trans hls.1.symm) h.2.2.2.1 (hts _ hlink) (hts _ hstat) (hts _ hini) (hts _ hcode) (by rw [hR]; exact hr.1) (by rw [hR]; exact hr.2.1) (by rw [hR]; exact hr.2.2.1) (by rw [hR]; exact hr.2.2.2) hdg ?_
  have := kk H locs ls hP hS hls
  by_cases hab : a < b
  · rw [if_pos ((iI_lt ha hb).mpr hab)]; rw [if_pos hab] at this; exact this
  · rw [if_neg (fun e => hab ((iI_lt ha hb).mp e))]; rw [if_neg hab] at this; exact this
theorem k_min (h : kOk E X cc own nL rm) {index : Nat} {a b : Int} (ha : -2147483648 ≤ a ∧ a < 2147483648) (hb : -2147483648 ≤ b ∧ b < 2147483648) (hlink : Cond.methodLink own index Lib.Math.min.name ∈ kAL) (hstat : Cond.static Lib.Math.min.name ∈ kAL) (hini : Cond.initialized "java/lang/Math" ∈ kAL) (hcode : Cond.code Lib.Math.min.name Lib.Math.min.code 2 (some .int) ∈ kAL) (hr : 1 ≤ rm.frames ∧ (st.map fun v => v.category).sum + 13 ≤ rm.locals ∧ k ≤ rm.cells ∧ n ≤ rm.slots) (hdg : decode cc pc = .ok (.invokestatic index, 3)) (kk : kG E X nL k n w (pc + 3) lv (.int (iI (if a ≤ b then a else b)) :: st)) : kG E X nL k n w pc lv (.int (iI b) :: .int (iI a) :: st) := by
  intro H locs ls hP hS hls
  have hts := h.2.2.2.2.1
  have hR : kXR X = rm := h.2.2.2.2.2.2.2.2
  refine va_mmin h.1 h.2.1 (h.2.2.1.trans hls.1.symm) h.2.2.2.1 (hts _ hlink) (hts _ hstat) (hts _ hini) (hts _ hcode) (by rw [hR]; exact hr.1) (by rw [hR]; exact hr.2.1) (by rw [hR]; exact hr.2.2.1) (by rw [hR]; exact hr.2.2.2) hdg ?_
  have := kk H locs ls hP hS hls
  first
    | (by_cases hab : a ≤ b
       · rw [if_pos ((iI_le ha hb).mpr hab)]; rw [if_pos hab] at this; exact this
       · rw [if_neg (fun e => hab ((iI_le ha hb).mp e))]; rw [if_neg hab] at this; exact this)
    | (by_cases hab : b < a
       · rw [if_pos ((iI_lt hb ha).mpr hab)]; rw [if_neg (by omega)] at this; exact this
       · rw [if_neg (fun e => hab ((iI_lt hb ha).mp e))]; rw [if_pos (by omega)] at this; exact this)
    | (by_cases hab : a < b
       · rw [if_pos ((iI_lt ha hb).mpr hab)]; rw [if_pos (by omega)] at this; exact this
       · rw [if_neg (fun e => hab ((iI_lt ha hb).mp e))]
         by_cases e : a = b
         · subst e; rw [if_pos (by omega)] at this; exact this
         · rw [if_neg (by omega)] at this; exact this)
end KHEAP
