/-! THE LAYER: worlds by keys, ints as integers, one judgement kG without heap. Mine. -/
def iI (z : Int) : Int32 := Int32.ofInt z
def lI (z : Int) : Int64 := Int64.ofInt z
theorem iI_to {z : Int} (h : -2147483648 ≤ z ∧ z < 2147483648) : (iI z).toInt = z := Int32.toInt_ofInt_of_le (by omega) (by omega)
theorem lI_to {z : Int} (h : -9223372036854775808 ≤ z ∧ z < 9223372036854775808) : (lI z).toInt = z := Int64.toInt_ofInt_of_le (by omega) (by omega)
theorem iI_eq {a b : Int} (ha : -2147483648 ≤ a ∧ a < 2147483648) (hb : -2147483648 ≤ b ∧ b < 2147483648) : iI a = iI b ↔ a = b := ⟨fun h => by have := congrArg Int32.toInt h; rwa [iI_to ha, iI_to hb] at this, fun h => by rw [h]⟩
theorem iI_lt {a b : Int} (ha : -2147483648 ≤ a ∧ a < 2147483648) (hb : -2147483648 ≤ b ∧ b < 2147483648) : iI a < iI b ↔ a < b := by rw [Int32.lt_iff_toInt_lt, iI_to ha, iI_to hb]
theorem iI_le {a b : Int} (ha : -2147483648 ≤ a ∧ a < 2147483648) (hb : -2147483648 ≤ b ∧ b < 2147483648) : iI a ≤ iI b ↔ a ≤ b := by rw [Int32.le_iff_toInt_le, iI_to ha, iI_to hb]
theorem iI_0 : (0 : Int32) = iI 0 := by decide
theorem iI_of (x : Int32) : iI x.toInt = x := Int32.ofInt_toInt x
theorem iI_rg (x : Int32) : -2147483648 ≤ x.toInt ∧ x.toInt < 2147483648 := ⟨Int32.le_toInt x, Int32.toInt_lt x⟩
theorem iI_cl {z : Int} (h : 0 ≤ z ∧ z < 2147483648) : (iI z).toNatClampNeg = z.toNat := by
  show (iI z).toInt.toNat = z.toNat
  rw [iI_to (by omega)]
theorem iI_in {z : Int} {N : Nat} (h : 0 ≤ z ∧ z < N) (hN : N < 2147483648) : vp_in (iI z) N := by
  rw [vp_in_iff, iI_to (by omega)]
  exact h
theorem iI_nat (n : Nat) : iI (n : Int) = Int32.ofNat n := Int32.ofInt_eq_ofNat
/-- what a cell holds, with the kind of its array -/
abbrev kC : Type := (Nat × vp_A) ⊕ (Nat × List Value)
abbrev kW : Type := Nat → Option (Nat × kC)
/-- the classes, the array classes by their kinds, the first address of ours -/
abbrev kE : Type := va_G × (Nat → ClassId) × Nat
def kcv (cA : Nat → ClassId) : kC → va_E
  | .inl a => .inl (cA a.1, a.2)
  | .inr o => .inr o
def kTy : List FieldType := [.int, .boolean, .char, .long, .double, .object "Parserpark$Rule", .object "Parserpark$Text"]
def kT (cA : Nat → ClassId) : List (ClassId × FieldType) := [(cA 0, .int), (cA 1, .boolean), (cA 2, .char), (cA 3, .long), (cA 4, .double), (cA 5, .object "Parserpark$Rule"), (cA 6, .object "Parserpark$Text")]
def kP (E : kE) (w : kW) (H : Heap) : Prop := (∀ (k a : Nat) (c : kC), w k = some (a, c) → va_at E.1 vwCl (a, kcv E.2.1 c) H ∧ E.2.2 ≤ a) ∧ ∀ (i j a : Nat) (c d : kC), w i = some (a, c) → w j = some (a, d) → i = j
def kA (E : kE) : Nat → Prop := fun q => E.2.2 ≤ q
def kset (w : kW) (k a : Nat) (c : kC) : kW := fun j => if j = k then some (a, c) else w j
theorem kset_eq {w : kW} {k a : Nat} {c : kC} : kset w k a c k = some (a, c) := if_pos rfl
theorem kset_ne {w : kW} {k a j : Nat} {c : kC} (h : j ≠ k) : kset w k a c j = w j := if_neg h
def kTN : String := "java/lang/Throwable"
def kEnv (E : kE) (U : State) : Prop := va_K E.1 vwCl (kT E.2.1) U ∧ (∀ w ∈ kBL, va_Nw w U) ∧ va_AO "Parserpark$Rule" U ∧ va_AO "Parserpark$Text" U ∧ vx_Zq Bundle.tN "UNASSIGNED_STACK" Bundle.steD (kA E) U U.heap ∧ vx_Zq Bundle.tN "SUPPRESSED_SENTINEL" Bundle.listD (kA E) U U.heap ∧ E.2.2 ≤ U.heap.size
theorem kNw_warm {s U : State} (hW : s.WarmedH U.vm) {w : Cond} (hw : w ∈ kBL) (h : va_Nw w s) : va_Nw w U := by
  have hs := (List.mem_filter.mp hw).2
  cases w <;> first | exact va_Nw.warmM hW h | exact va_Nw.warmD hW h | exact va_Nw.warmC hW h | cases hs
theorem kEnv.move {E : kE} {s U : State} {H : Heap} {locs : List Loc} (h : kEnv E s) (hW : s.WarmedH U.vm) (hS : va_S (kA E) s.heap H locs) (hU : U.heap = H) : kEnv E U := by
  obtain ⟨h1, h2, h3, h4, h5, h6, h7⟩ := h
  refine ⟨h1.moved hW.alike, fun w hw => kNw_warm hW hw (h2 w hw), h3.moved hW.alike, h4.moved hW.alike, ?_, ?_, ?_⟩
  · rw [hU]; exact (h5.moved hW.alike).kept hS.2.1
  · rw [hU]; exact (h6.moved hW.alike).kept hS.2.1
  · rw [hU]; exact Nat.le_trans h7 hS.1
theorem kEnv.calling {E : kE} {U : State} {g : JFrame} {mk : MethodId} {a : Array Value} (h : kEnv E U) : kEnv E (U.calling g mk a) := by
  obtain ⟨h1, h2, h3, h4, h5, h6, h7⟩ := h
  have hv : U.vm.Alike (U.calling g mk a).vm := Vm.Alike.refl U.vm
  refine ⟨h1.moved hv, fun w hw => ?_, h3.moved hv, h4.moved hv, h5.moved hv, h6.moved hv, h7⟩
  have hs := (List.mem_filter.mp hw).2
  have hx := h2 w hw
  exact va_Nw.same (by cases w <;> first | rfl | cases hs) (show U.vm = (U.calling g mk a).vm from rfl) hx
theorem kP.set {E : kE} {w : kW} {k a : Nat} {c0 c : kC} {H H1 : Heap} (h : kP E w H) (h0 : w k = some (a, c0)) (he : va_at E.1 vwCl (a, kcv E.2.1 c) H1) (oq : ∀ q : Nat, q ≠ a → H1[q]? = H[q]?) : kP E (kset w k a c) H1 := by
  refine ⟨fun j b d hj => ?_, fun i j b d d' hi hj => ?_⟩
  · by_cases hjk : j = k
    · subst hjk
      rw [kset_eq] at hj
      cases hj
      exact ⟨he, (h.1 _ _ _ h0).2⟩
    · rw [kset_ne hjk] at hj
      refine ⟨(h.1 j b d hj).1.kept (oq b fun e => hjk ?_), (h.1 j b d hj).2⟩
      subst e
      exact h.2 j k _ _ _ hj h0
  · by_cases hik : i = k
    · subst hik
      rw [kset_eq] at hi
      cases hi
      by_cases hjk : j = i
      · exact hjk.symm
      · rw [kset_ne hjk] at hj
        exact h.2 _ _ _ _ _ h0 hj
    · rw [kset_ne hik] at hi
      by_cases hjk : j = k
      · subst hjk
        rw [kset_eq] at hj
        cases hj
        exact h.2 _ _ _ _ _ hi h0
      · rw [kset_ne hjk] at hj
        exact h.2 _ _ _ _ _ hi hj
theorem kP.push {E : kE} {w : kW} {k a : Nat} {c : kC} {H H1 : Heap} (h : kP E w H) (ha : a = H.size) (hE : E.2.2 ≤ a) (he : va_at E.1 vwCl (a, kcv E.2.1 c) H1) (oq : ∀ q : Nat, q < H.size → H1[q]? = H[q]?) : kP E (kset w k a c) H1 := by
  have hlt : ∀ (j b : Nat) (d : kC), w j = some (b, d) → b < H.size := fun j b d hj => (h.1 j b d hj).1.lt
  refine ⟨fun j b d hj => ?_, fun i j b d d' hi hj => ?_⟩
  · by_cases hjk : j = k
    · subst hjk
      rw [kset_eq] at hj
      cases hj
      exact ⟨he, hE⟩
    · rw [kset_ne hjk] at hj
      exact ⟨(h.1 j b d hj).1.kept (oq b (hlt j b d hj)), (h.1 j b d hj).2⟩
  · by_cases hik : i = k
    · subst hik
      rw [kset_eq] at hi
      cases hi
      by_cases hjk : j = i
      · exact hjk.symm
      · rw [kset_ne hjk] at hj
        exact absurd (hlt _ _ _ hj) (by omega)
    · rw [kset_ne hik] at hi
      by_cases hjk : j = k
      · subst hjk
        rw [kset_eq] at hj
        cases hj
        exact absurd (hlt _ _ _ hi) (by omega)
      · rw [kset_ne hjk] at hj
        exact h.2 _ _ _ _ _ hi hj
theorem kP.kept {E : kE} {w : kW} {H H1 : Heap} (h : kP E w H) (oq : ∀ q : Nat, q < H.size → H1[q]? = H[q]?) : kP E w H1 := ⟨fun j b d hj => ⟨(h.1 j b d hj).1.kept (oq b (h.1 j b d hj).1.lt), (h.1 j b d hj).2⟩, h.2⟩
/-- one cell of the world, as a world of the kit's own -/
theorem kP.one {E : kE} {w : kW} {k a : Nat} {c : kC} {H : Heap} (h : kP E w H) (h0 : w k = some (a, c)) : va_P E.1 vwCl [(a, kcv E.2.1 c)] H := by
  intro j q hj
  have hz : j < 1 := (List.getElem?_eq_some_iff.mp hj).1
  have h1 : j = 0 := by omega
  subst h1
  cases hj
  exact (h.1 _ _ _ h0).1
/-- where a walk stands: program, launch, environment, room, start, method, arguments, frames below, method, code, aim -/
abbrev kX : Type := Program × Launch × Env × Room × State × MethodId × Array Value × List Frame × Method × Code × (State → Prop)
abbrev kXp (X : kX) := X.1
abbrev kXl (X : kX) := X.2.1
abbrev kXe (X : kX) := X.2.2.1
abbrev kXR (X : kX) := X.2.2.2.1
abbrev kXs (X : kX) := X.2.2.2.2.1
abbrev kXm (X : kX) := X.2.2.2.2.2.1
abbrev kXa (X : kX) := X.2.2.2.2.2.2.1
abbrev kXb (X : kX) := X.2.2.2.2.2.2.2.1
abbrev kXme (X : kX) := X.2.2.2.2.2.2.2.2.1
abbrev kXc (X : kX) := X.2.2.2.2.2.2.2.2.2.1
abbrev kXQ (X : kX) := X.2.2.2.2.2.2.2.2.2.2
abbrev kXW (X : kX) (H : Heap) (locs : List Loc) (k n : Nat) (g : JFrame) : Prop := W (kXp X) (kXl X) (kXe X) (kXR X) (kXs X) (kXm X) (kXa X) (kXb X) (kXme X) (kXc X) H locs k n (kXQ X) g
def kG (E : kE) (X : kX) (nL k n : Nat) (w : kW) (pc : Nat) (lv : List (Nat × Value)) (st : List Value) : Prop :=
  ∀ (H : Heap) (locs : List Loc) (ls : Array Slot), kP E w H → va_S (kA E) (kXs X).heap H locs → lv_has ls nL lv → kXW X H locs k n (F0 (kXm X) pc ls st)
def kOk (E : kE) (X : kX) (cc : ByteArray) (own : String) (nL : Nat) (rm : Room) : Prop :=
  (kXp X).tables.exec = Jvm.exec ∧ (kXc X).code = cc ∧ (kXc X).maxLocals = nL ∧ (kXs X).vm.findClass own = some (kXm X).cls ∧ (∀ w ∈ kAL, w.before (kXa X) (kXs X) = true) ∧ kEnv E (kXs X) ∧ (kXme X).locks = false ∧ (kXl X).stackTraces = false ∧ kXR X = rm
def kQ (E : kE) (post : Option Value → kW → Prop) : Array Value → State → Outcome → State → Prop := fun _ st oc t => (∃ (v : Option Value) (w' : kW), oc = .returned v ∧ post v w' ∧ kP E w' t.heap) ∧ va_F (kA E) st t
def kM (E : kE) (l : Launch) (y : MethodName) (ws : List Cond) (rm : Room) (mc ms : Nat) (av : List Value) (w : kW) (post : Option Value → kW → Prop) : Prop :=
  Met l y ws rm (va_Pc av (fun U => kEnv E U ∧ kP E w U.heap)) (kQ E post) mc ms (kA E)
def kRet (E : kE) (X : kX) (ret : Option FieldType) (post : Option Value → kW → Prop) (mc ms : Nat) : Prop :=
  (kXme X).sig.returnType = ret ∧ ∀ t, MQ (kXb X) (kQ E post) (kXa X) (kXs X) mc ms (kA E) t → kXQ X t
def pI (P : Int → kW → Prop) : Option Value → kW → Prop := fun v w => ∃ z : Int, v = some (.int (iI z)) ∧ P z w
def pV (P : kW → Prop) : Option Value → kW → Prop := fun v w => v = none ∧ P w
def pR (P : Nat → kW → Prop) : Option Value → kW → Prop := fun v w => ∃ a : Nat, v = some (.ref a) ∧ P a w
def pQ (P : Option Nat → kW → Prop) : Option Value → kW → Prop := fun v w => ∃ a : Option Nat, v = some (va_rf a) ∧ P a w
def pL (P : Int → kW → Prop) : Option Value → kW → Prop := fun v w => ∃ z : Int, v = some (.long (lI z)) ∧ P z w
def pF (P : UInt32 → kW → Prop) : Option Value → kW → Prop := fun v w => ∃ z : UInt32, v = some (.float z) ∧ P z w
def pD (P : UInt64 → kW → Prop) : Option Value → kW → Prop := fun v w => ∃ z : UInt64, v = some (.double z) ∧ P z w
theorem kM_of {E : kE} {l : Launch} {y : MethodName} {cc : ByteArray} {nL : Nat} {ret : Option FieldType} {rm : Room} {mc ms : Nat} {av : List Value} {w : kW} {post : Option Value → kW → Prop} (hst : l.stackTraces = false) (hy : plainName y.cls = true) (hn : (lg_sl av).length ≤ nL)
    (body : ∀ X : kX, kXl X = l → kOk E X cc y.cls nL rm → kRet E X ret post mc ms → (y.name = "<init>" → (kXme X).name = "<init>") → kG E X nL 0 0 w 0 (lv_args 0 av) []) : kM E l y (.code y cc nL ret :: kAL) rm mc ms av w post := by
  refine Met.ofW (cc := cc) (maxL := nL) (ret := ret) hy rfl ?_
  intro p e s m args below meth c s₁ B hml hv
  obtain ⟨rfl, hE, hP⟩ := hv
  have hts := atoms_spec (ws := .code y cc nL ret :: kAL) B.pre
  have hown := findClass_of_methodNamed B.named
  have K := body (p, l, e, rm, s, m, av.toArray, below, meth, c, MQ below (kQ E post) av.toArray s mc ms (kA E)) rfl ⟨B.exec, B.bytes, hml, hown, fun w h => hts w (List.mem_cons_of_mem _ h), hE, B.notSynchronized, hst, rfl⟩ ⟨B.returns, fun _ h => h⟩ (fun hyn => (name_of_methodNamed B.named B.method).1.trans hyn)
  rw [lg_entry_eq]
  exact K s.heap [] _ hP va_S.rf (lv_entry av hn)
