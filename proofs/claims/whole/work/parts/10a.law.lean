/-! THE LAW'S LAYER: helpers that catch, the script, the start. Mine. -/
def kNL : List (String × String) := [("java/lang/IllegalStateException", "java/lang/IllegalArgumentException"), ("java/util/NoSuchElementException", "java/lang/IllegalArgumentException"), ("java/lang/IllegalArgumentException", "java/util/NoSuchElementException"), ("java/lang/IllegalArgumentException", "java/lang/IndexOutOfBoundsException"), ("java/lang/IllegalStateException", "java/lang/IndexOutOfBoundsException"), ("java/lang/UnsupportedOperationException", "java/lang/IndexOutOfBoundsException"), ("java/util/NoSuchElementException", "java/lang/IndexOutOfBoundsException"), ("java/lang/UnsupportedOperationException", "java/lang/IllegalStateException")]
def kNc (U : State) : Prop := ∀ q ∈ kNL, va_Nc q.1 q.2 U
theorem kNc.moved {u U : State} (hvm : u.vm.Alike U.vm) (h : kNc u) : kNc U := fun q hq => (h q hq).moved hvm
theorem kNc.calling {U : State} {g : JFrame} {mk : MethodId} {a : Array Value} (h : kNc U) : kNc (U.calling g mk a) := h.moved (show U.vm.Alike (U.calling g mk a).vm from Vm.Alike.refl U.vm)
def kMN (E : kE) (l : Launch) (y : MethodName) (ws : List Cond) (rm : Room) (mc ms : Nat) (av : List Value) (w : kW) (post : Option Value → kW → Prop) : Prop :=
  Met l y ws rm (va_Pc av (fun U => (kEnv E U ∧ kNc U) ∧ kP E w U.heap)) (kQ E post) mc ms (kA E)
theorem kMN_of {E : kE} {l : Launch} {y : MethodName} {cc : ByteArray} {nL : Nat} {ret : Option FieldType} {hh : List (Nat × Nat × Nat × Nat)} {rm : Room} {mc ms : Nat} {av : List Value} {w : kW} {post : Option Value → kW → Prop} (hst : l.stackTraces = false) (hy : plainName y.cls = true) (hn : (lg_sl av).length ≤ nL)
    (body : ∀ X : kX, kXl X = l → kOk E X cc y.cls nL rm → kRet E X ret post mc ms → (kXc X).exceptionTable.toList = tableOf hh → kNc (kXs X) → kG E X nL 0 0 w 0 (lv_args 0 av) []) : kMN E l y (.codeWith y cc nL ret hh :: kAL) rm mc ms av w post := by
  unfold kMN Met
  refine MetFree.of_bodyS (code := cc) (maxLocals := nL) (ret := ret) hy ?_ ?_
  · intro args s m h hn
    obtain ⟨m9, meth, c, hn9, h1, h2, h3, h4, -, h5, h6, -⟩ := Cond.codeWith_spec (atoms_spec (ws := .codeWith y cc nL ret hh :: kAL) h _ List.mem_cons_self)
    cases hn.symm.trans hn9
    exact ⟨meth, c, h1, h2, h3, h4, h5, h6⟩
  · intro p e s m args below meth c s₁ B hml hv _
    obtain ⟨rfl, ⟨hE, hNc⟩, hP⟩ := hv
    have hts := atoms_spec (ws := .codeWith y cc nL ret hh :: kAL) B.pre
    have hown := findClass_of_methodNamed B.named
    have hh0 : s₁.heap = s.heap := by rw [B.state]; rfl
    have htb := vx_table (x := y) B (hts _ List.mem_cons_self)
    have K := body (p, l, e, rm, s, m, av.toArray, below, meth, c, MQ below (kQ E post) av.toArray s mc ms (kA E)) rfl ⟨B.exec, B.bytes, hml, hown, fun w h => hts w (List.mem_cons_of_mem _ h), hE, B.notSynchronized, hst, rfl⟩ ⟨B.returns, fun _ h => h⟩ htb hNc
    have K2 : W p l e (headSpec (Cond.codeWith y cc nL ret hh :: kAL) rm).room s m av.toArray below meth c s.heap [] 0 0 (MQ below (kQ E post) av.toArray s mc ms (kA E)) (entryFrame m av.toArray nL) := by
      rw [lg_entry_eq]
      exact K s.heap [] _ hP va_S.rf (lv_entry av hn)
    obtain ⟨t, a1, o, b1, b2, b3⟩ := K2 s₁ hh0 (Stand.of_body B)
    exact ⟨t, o, a1, b1, b2, ⟨b3.1, b3.2⟩⟩
theorem kblindN {av : List Value} {E : kE} {w : kW} : FrameBlind (va_Pc av (fun U => (kEnv E U ∧ kNc U) ∧ kP E w U.heap)) := fun _ _ _ _ q => ⟨q.1, ⟨q.2.1.1.calling, q.2.1.2.calling⟩, q.2.2⟩
theorem kpreN {E : kE} {s : State} {w : kW} {H : Heap} {locs : List Loc} (av : List Value) (hE : kEnv E s) (hN : kNc s) (hP : kP E w H) (hS : va_S (kA E) s.heap H locs) : ∀ U : State, U.heap = H → s.WarmedH U.vm → va_Pc av (fun U => (kEnv E U ∧ kNc U) ∧ kP E w U.heap) av.toArray U := fun _ hU hW => ⟨rfl, ⟨hE.move hW hS hU, hN.moved hW.alike⟩, by rw [hU]; exact hP⟩
section KLAW
variable {E : kE} {X : kX} {cc : ByteArray} {own : String} {nL k n pc : Nat} {rm : Room} {w : kW} {lv : List (Nat × Value)} {st rest : List Value} {mc ms : Nat} {post : Option Value → kW → Prop}
theorem k_callSWN (h : kOk E X cc own nL rm) (hN : kNc (kXs X)) {y : MethodName} {b : ByteArray} {mL np : Nat} {ret : Option FieldType} {hh : List (Nat × Nat × Nat × Nat)} {rm' : Room} {index : Nat} {As : List Value} (hy : kYW y b mL ret hh np) (hlink : Cond.methodLink own index y ∈ kAL) (hM : kMN E (kXl X) y (.codeWith y b mL ret hh :: kAL) rm' mc ms As w post) (hn : As.length = np) (hst : st = As.reverse ++ rest) (hW : (rest.map fun v => v.category).sum ≤ 8) (hr : kRoom rm rm' mL mc ms k n) (hdg : decode cc pc = .ok (.invokestatic index, 3))
    (kk : ∀ v w', post v w' → kG E X nL (k + mc) (n + ms) w' (pc + 3) lv (v.toList ++ rest)) : kG E X nL k n w pc lv st := by
  obtain ⟨y1, y2, y4, y5⟩ := hy
  obtain ⟨r1, r2, r3, r4⟩ := hr
  subst hst
  intro H locs ls hP hS hls
  have hts := h.2.2.2.2.1
  have hR : kXR X = rm := h.2.2.2.2.2.2.2.2
  have hT : GoodIn kAL (va_wsS own index y (Cond.codeWith y b mL ret hh :: kAL)) := kgood _ (fun w hw => by
    unfold va_wsS at hw
    rcases List.mem_append.mp hw with hw | hw
    · simp only [List.mem_cons, List.not_mem_nil, or_false] at hw
      rcases hw with rfl | rfl | rfl
      · exact hlink
      · exact y2
      · exact y4
    · exact (List.mem_cons.mp hw).elim (fun e => e ▸ y1) id)
  exact k_run (vx_runSW (As := As) (rest := rest) ⟨h.1, h.2.1, h.2.2.1, h.2.2.2.1, hts⟩ hM (vx_cwSW np hts hT rfl r1 r2 y5 (by rw [hR]; exact r3)) ⟨kblindN, kpreN _ h.2.2.2.2.2.1 hN hP hS⟩ rfl hn hls.1 rfl (lv_room hW) hdg (by rw [hR]; exact r4)) hS hls kk
/-- caught by a row of this method's own table -/
theorem k_catch (h : kOk E X cc own nL rm) {Ex nm : String} {tb : List ExceptionTableEntry} (htab : (kXc X).exceptionTable.toList = tb) (pre : List ExceptionTableEntry) (x : ExceptionTableEntry) (suf : List ExceptionTableEntry) (hsplit : tb = pre ++ x :: suf)
    (hpass : ∀ z ∈ pre, covers z pc = false ∨ (z.catchType ≠ 0 ∧ ∃ nm2 : String, Cond.classLink own z.catchType nm2 ∈ kAL ∧ va_Nc Ex nm2 (kXs X))) (hx : covers x pc = true) (h0 : x.catchType ≠ 0) (hlink : Cond.classLink own x.catchType nm ∈ kAL) (hcast : Cond.castable Ex nm ∈ kBL)
    (kk : ∀ q : Nat, kG E X nL k n w x.handlerPc lv [.ref q]) : kGT E X nL k n w pc lv st Ex := by
  intro H locs ls q ce hP hS hls hcell hv hcl
  have hts := h.2.2.2.2.1
  exact vx_catch h.2.2.2.1 pre x suf (htab.trans hsplit) (fun z hz => (hpass z hz).imp id fun ⟨z0, nm2, a, b⟩ => ⟨z0, nm2, hts _ a, b⟩) hx h0 (hts _ hlink) (va_Nw.use rfl (h.2.2.2.2.2.1.2.1 _ hcast)) hcell hv hcl (kk q H locs ls hP hS hls)
theorem k_wd {k2 n2 : Nat} (h1 : k ≤ k2) (h2 : n ≤ n2) (kk : kG E X nL k2 n2 w pc lv st) : kG E X nL k n w pc lv st := fun H locs ls hP hS hls => W.widen h1 h2 (kk H locs ls hP hS hls)
/-- the script -/
def kSr (E : kE) (X : kX) (b L : Nat) (xs : Nat → Int32) : Prop := va_X b L xs (kXs X) (kXs X).heap ∧ b < (kXs X).heap.size ∧ ¬ kA E b
theorem k_sld (h : kOk E X cc own nL rm) {b L : Nat} {xs : Nat → Int32} (hX : kSr E X b L xs) {z x' : Int} (hz : 0 ≤ z ∧ z < L) (hL : L < 2147483648) (hx' : x' = (xs z.toNat).toInt) (hdg : decode cc pc = .ok (.iaload, 1)) (kk : kG E X nL k n w (pc + 1) lv (.int (iI x') :: st)) : kG E X nL k n w pc lv (.int (iI z) :: .ref b :: st) := fun H locs ls hP hS hls =>
  va_sld h.1 h.2.1 hX.1 hX.2.1 hX.2.2 hS (iI_in hz hL) hdg (by have := kk H locs ls hP hS hls; rw [iI_cl (by omega)]; rw [hx', iI_of] at this; exact this)
theorem k_slen (h : kOk E X cc own nL rm) {b L : Nat} {xs : Nat → Int32} (hX : kSr E X b L xs) (hdg : decode cc pc = .ok (.arraylength, 1)) (kk : kG E X nL k n w (pc + 1) lv (.int (iI (L : Int)) :: st)) : kG E X nL k n w pc lv (.ref b :: st) := fun H locs ls hP hS hls =>
  va_slen h.1 h.2.1 hX.1 hX.2.1 hX.2.2 hS hdg (by have := kk H locs ls hP hS hls; rw [iI_nat] at this; exact this)
theorem iI_31 (x : Int32) : 0 ≤ (x &&& 31).toInt ∧ (x &&& 31).toInt < 32 := by
  have e : (x &&& 31).toInt = ((x.toBitVec.toNat % 32 : Nat) : Int) := by
    show (x.toBitVec &&& 31#32).toInt = _
    have h : (x.toBitVec &&& 31#32).toNat = x.toBitVec.toNat % 32 := by
      rw [BitVec.toNat_and]
      exact Nat.and_two_pow_sub_one_eq_mod _ 5
    rw [BitVec.toInt_eq_toNat_of_lt (by rw [h]; omega), h]
  rw [e]
  omega
theorem k_iand31 (h : kOk E X cc own nL rm) {a : Int} (hdg : decode cc pc = .ok (.iand, 1)) (kk : ∀ z : Int, 0 ≤ z ∧ z < 32 → kG E X nL k n w (pc + 1) lv (.int (iI z) :: st)) : kG E X nL k n w pc lv (.int (iI 31) :: .int (iI a) :: st) := fun H locs ls hP hS hls =>
  lv_iand h.1 h.2.1 hdg (by have := kk _ (iI_31 (iI a)) H locs ls hP hS hls; rw [iI_of] at this; exact this)
theorem k_tableIn (h : kOk E X cc own nL rm) {z dflt lo hi off : Int} {offs : Array Int} {len tgt : Nat} (hz : -2147483648 ≤ z ∧ z < 2147483648) (hdg : decode cc pc = .ok (.tableswitch dflt lo hi offs, len)) (h1 : lo ≤ z) (h2 : z ≤ hi) (ho : offs[(z - lo).toNat]? = some off) (ht : (pc : Int) + off = (tgt : Int)) (kk : kG E X nL k n w tgt lv st) : kG E X nL k n w pc lv (.int (iI z) :: st) := fun H locs ls hP hS hls =>
  lv_tableIn h.1 h.2.1 hdg (by rw [iI_to hz]; omega) (by rw [iI_to hz]; omega) (by rw [iI_to hz]; exact ho) ht (kk H locs ls hP hS hls)
theorem k_tableOut (h : kOk E X cc own nL rm) {z dflt lo hi : Int} {offs : Array Int} {len tgt : Nat} (hz : -2147483648 ≤ z ∧ z < 2147483648) (hdg : decode cc pc = .ok (.tableswitch dflt lo hi offs, len)) (h1 : z < lo ∨ hi < z) (ht : (pc : Int) + dflt = (tgt : Int)) (kk : kG E X nL k n w tgt lv st) : kG E X nL k n w pc lv (.int (iI z) :: st) := fun H locs ls hP hS hls =>
  lv_tableOut h.1 h.2.1 hdg (by rw [iI_to hz]; exact h1) ht (kk H locs ls hP hS hls)
theorem m_ord {x : FP.Core.Datum} (h : x ≠ .nan) : FP.Core.order x x = some .eq := by
  have c : ∀ z : Int, compare z z = .eq := fun z => by simp [compare, compareOfLessAndEq]
  cases x with
  | nan => exact absurd rfl h
  | inf => exact congrArg some (c _)
  | fin s c2 q => exact congrArg some (c _)
theorem m_dec64 {n : Nat} (h : n % 9223372036854775808 ≤ 9218868437227405312) : FP.Core.decode FP.Core.b64 n ≠ .nan := by
  unfold FP.Core.decode
  by_cases e : FP.Core.fieldE FP.Core.b64 n = FP.Core.b64.exps - 1
  · rw [if_pos e]
    have e2 : n / 4503599627370496 % 2048 = 2047 := e
    by_cases t : FP.Core.fieldT FP.Core.b64 n = 0
    · rw [if_pos t]; intro q; cases q
    · exfalso
      have t2 : ¬ n % 4503599627370496 = 0 := t
      omega
  · rw [if_neg e]
    by_cases z : FP.Core.fieldE FP.Core.b64 n = 0
    · rw [if_pos z]; intro q; cases q
    · rw [if_neg z]; intro q; cases q
theorem m_nn64 {a : UInt64} (h : vf_n64 a) : FP.dcmp a a = some .eq := by
  show FP.Core.order (FP.Core.decode FP.Core.b64 a.toNat) (FP.Core.decode FP.Core.b64 a.toNat) = some .eq
  refine m_ord (m_dec64 ?_)
  unfold vf_n64 at h
  have h2 := UInt64.le_iff_toNat_le.mp h
  rw [UInt64.toNat_and] at h2
  have e : a.toNat &&& 9223372036854775807 = a.toNat % 2 ^ 63 := Nat.and_two_pow_sub_one_eq_mod _ 63
  rw [show (9223372036854775807 : UInt64).toNat = 9223372036854775807 from rfl, e] at h2
  exact h2
theorem k_dcmpS (h : kOk E X cc own nL rm) {x : UInt64} {op : CmpOp} (hne : vf_n64 x) (hdg : decode cc pc = .ok (.dcmp op, 1)) (kk : kG E X nL k n w (pc + 1) lv (.int (iI 0) :: st)) : kG E X nL k n w pc lv (.double x :: .double x :: st) := fun H locs ls hP hS hls =>
  lv_dcmp h.1 h.2.1 hdg (by have := kk H locs ls hP hS hls; rw [m_nn64 hne]; exact this)
end KLAW
/-- the law's own cells and the Model's are none of the class's -/
abbrev kOx : Nat → Prop := fun x => 17 ≤ x ∧ x ≤ 44
abbrev kPw : Nat → Prop := fun x => x ≤ 18 ∨ 100 ≤ x
section KEXS
variable {w w2 : kW} {ad bd : Nat → Nat} {nr : Nat} {g : Nat → Nat → Int} {T : Nat} {lts : Nat → Nat → Int} {cs : Nat → Int} {acs : Nat → Nat → Int} {ams : Nat → Int} {rel fnd th : Int} {Ns : Nat → Nat → Nat}
theorem kSu.ox (h : kSu w ad nr g T lts cs acs ams rel fnd Ns) (hx : kEx w w2 kOx) : kSu w2 ad nr g T lts cs acs ams rel fnd Ns := by
  obtain ⟨⟨a, b, c, d, e, f, i, j, k⟩, q⟩ := h
  exact ⟨⟨a.ex hx (by show ¬ (17 ≤ 0 ∧ 0 ≤ 44); omega), b.ex hx (by show ¬ (17 ≤ 1 ∧ 1 ≤ 44); omega) (by show ¬ (17 ≤ 2 ∧ 2 ≤ 44); omega) (fun x _ => by show ¬ (17 ≤ 100 + x ∧ 100 + x ≤ 44); omega), c, d.ex hx (by show ¬ (17 ≤ 3 ∧ 3 ≤ 44); omega), e.ex hx (fun x _ _ => by show ¬ (17 ≤ x ∧ x ≤ 44); omega), f.ex hx (fun x _ _ => by show ¬ (17 ≤ x ∧ x ≤ 44); omega), i.ex hx (by show ¬ (17 ≤ 15 ∧ 15 ≤ 44); omega) (by show ¬ (17 ≤ 16 ∧ 16 ≤ 44); omega), fun t ht => (j t ht).ex hx (fun x _ _ => by show ¬ (17 ≤ x ∧ x ≤ 44); omega), k⟩, q⟩
theorem kMu.pl (h : kMu w bd nr g T lts cs acs ams rel fnd th) (hx : kEx w w2 kPw) : kMu w2 bd nr g T lts cs acs ams rel fnd th := by
  obtain ⟨ltA, acA, mnA, sz, rx, N, tm, tr, sh, sg, sm, dp, hmd, h2⟩ := h
  exact ⟨ltA, acA, mnA, sz, rx, N, tm, tr, sh, sg, sm, dp, hmd.ex hx (fun x h1 h3 => by show ¬ (x ≤ 18 ∨ 100 ≤ x); omega), h2⟩
end KEXS
theorem kPk_Pl : ∀ x, kPk x → kPw x := fun x h => by rcases h with h | h; exact Or.inl (by omega); exact Or.inr h
theorem kMk_Ox : ∀ x, kMk x → kOx x := fun x h => ⟨by have := h.1; omega, h.2⟩
