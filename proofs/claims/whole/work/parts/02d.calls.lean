/-! CALLS, ENDS, THROWS. Mine. -/
def kXC (E : kE) (xp : String → kW → Prop) : String → State → State → Prop := fun Ex st t => (∃ w', xp Ex w' ∧ kP E w' t.heap) ∧ va_F (kA E) st t
/-- a contract of a method that returns or throws -/
def kMX (E : kE) (l : Launch) (y : MethodName) (ws : List Cond) (rm : Room) (mc ms : Nat) (av : List Value) (w : kW) (post : Option Value → kW → Prop) (xp : String → kW → Prop) : Prop :=
  vx_Met l y ws rm (va_Pc av (fun U => kEnv E U ∧ kP E w U.heap)) (kQ E post) (kXC E xp) mc ms (kA E)
def kRetX (E : kE) (X : kX) (ret : Option FieldType) (post : Option Value → kW → Prop) (xp : String → kW → Prop) (mc ms : Nat) : Prop :=
  (kXme X).sig.returnType = ret ∧ (∀ x ∈ (kXc X).exceptionTable.toList, False) ∧ ∀ t, vx_MQ (kXb X) (kQ E post) (kXC E xp) (kXa X) (kXs X) mc ms (kA E) t → kXQ X t
theorem kRetX.ret {E : kE} {X : kX} {ret : Option FieldType} {post : Option Value → kW → Prop} {xp : String → kW → Prop} {mc ms : Nat} (h : kRetX E X ret post xp mc ms) : kRet E X ret post mc ms :=
  ⟨h.1, fun t ⟨o, b1, b2, b3, b4⟩ => h.2.2 t ⟨o, b1, b2, Or.inl ⟨b3, b4⟩⟩⟩
theorem kMX_of {E : kE} {l : Launch} {y : MethodName} {cc : ByteArray} {nL : Nat} {ret : Option FieldType} {rm : Room} {mc ms : Nat} {av : List Value} {w : kW} {post : Option Value → kW → Prop} {xp : String → kW → Prop} (hst : l.stackTraces = false) (hy : plainName y.cls = true) (hn : (lg_sl av).length ≤ nL)
    (body : ∀ X : kX, kXl X = l → kOk E X cc y.cls nL rm → kRetX E X ret post xp mc ms → kG E X nL 0 0 w 0 (lv_args 0 av) []) : kMX E l y (.code y cc nL ret :: kAL) rm mc ms av w post xp := by
  refine vx_ofW (cc := cc) (maxL := nL) (ret := ret) hy rfl ?_
  intro p e s m args below meth c s₁ B hml htab hv
  obtain ⟨rfl, hE, hP⟩ := hv
  have hts := atoms_spec (ws := .code y cc nL ret :: kAL) B.pre
  have hown := findClass_of_methodNamed B.named
  have K := body (p, l, e, rm, s, m, av.toArray, below, meth, c, vx_MQ below (kQ E post) (kXC E xp) av.toArray s mc ms (kA E)) rfl ⟨B.exec, B.bytes, hml, hown, fun w h => hts w (List.mem_cons_of_mem _ h), hE, B.notSynchronized, hst, rfl⟩ ⟨B.returns, htab, fun _ h => h⟩
  rw [lg_entry_eq]
  exact K s.heap [] _ hP va_S.rf (lv_entry av hn)
/-- a method with a table of its own, that returns -/
theorem kMW_of {E : kE} {l : Launch} {y : MethodName} {cc : ByteArray} {nL : Nat} {ret : Option FieldType} {hh : List (Nat × Nat × Nat × Nat)} {rm : Room} {mc ms : Nat} {av : List Value} {w : kW} {post : Option Value → kW → Prop} (hst : l.stackTraces = false) (hy : plainName y.cls = true) (hn : (lg_sl av).length ≤ nL)
    (body : ∀ X : kX, kXl X = l → kOk E X cc y.cls nL rm → kRet E X ret post mc ms → (kXc X).exceptionTable.toList = tableOf hh → kG E X nL 0 0 w 0 (lv_args 0 av) []) : kM E l y (.codeWith y cc nL ret hh :: kAL) rm mc ms av w post := by
  unfold kM Met
  refine MetFree.of_bodyS (code := cc) (maxLocals := nL) (ret := ret) hy ?_ ?_
  · intro args s m h hn
    obtain ⟨m9, meth, c, hn9, h1, h2, h3, h4, -, h5, h6, -⟩ := Cond.codeWith_spec (atoms_spec (ws := .codeWith y cc nL ret hh :: kAL) h _ List.mem_cons_self)
    cases hn.symm.trans hn9
    exact ⟨meth, c, h1, h2, h3, h4, h5, h6⟩
  · intro p e s m args below meth c s₁ B hml hv _
    obtain ⟨rfl, hE, hP⟩ := hv
    have hts := atoms_spec (ws := .codeWith y cc nL ret hh :: kAL) B.pre
    have hown := findClass_of_methodNamed B.named
    have hh0 : s₁.heap = s.heap := by rw [B.state]; rfl
    have htb := vx_table (x := y) B (hts _ List.mem_cons_self)
    have K := body (p, l, e, rm, s, m, av.toArray, below, meth, c, MQ below (kQ E post) av.toArray s mc ms (kA E)) rfl ⟨B.exec, B.bytes, hml, hown, fun w h => hts w (List.mem_cons_of_mem _ h), hE, B.notSynchronized, hst, rfl⟩ ⟨B.returns, fun _ h => h⟩ htb
    have K2 : W p l e (headSpec (Cond.codeWith y cc nL ret hh :: kAL) rm).room s m av.toArray below meth c s.heap [] 0 0 (MQ below (kQ E post) av.toArray s mc ms (kA E)) (entryFrame m av.toArray nL) := by
      rw [lg_entry_eq]
      exact K s.heap [] _ hP va_S.rf (lv_entry av hn)
    obtain ⟨t, a1, o, b1, b2, b3⟩ := K2 s₁ hh0 (Stand.of_body B)
    exact ⟨t, o, a1, b1, b2, ⟨b3.1, b3.2⟩⟩
section KCALLS
variable {E : kE} {X : kX} {cc : ByteArray} {own : String} {nL k n pc : Nat} {rm : Room} {w : kW} {lv : List (Nat × Value)} {st rest : List Value} {mc ms : Nat} {post : Option Value → kW → Prop} {xp : String → kW → Prop}
/-- thrown over the frame, by the class's name -/
def kGT (E : kE) (X : kX) (nL k n : Nat) (w : kW) (pc : Nat) (lv : List (Nat × Value)) (st : List Value) (Ex : String) : Prop :=
  ∀ (H : Heap) (locs : List Loc) (ls : Array Slot) (q : Addr) (ce : Cell), kP E w H → va_S (kA E) (kXs X).heap H locs → lv_has ls nL lv → H[q]? = some ce → ce.vm = .none → (kXs X).vm.findClass Ex = some ce.cls → vx_W (kXp X) (kXl X) (kXe X) (kXR X) (kXs X) (kXm X) (kXa X) (kXb X) (kXme X) (kXc X) H locs k n (kXQ X) (F0 (kXm X) pc ls st) q
theorem k_run {H : Heap} {locs : List Loc} {ls : Array Slot} {st0 : List Value} {a : Array Value} (hr : va_Run (kXp X) (kXl X) (kXe X) (kXR X) (kXs X) (kXm X) (kXa X) (kXb X) (kXme X) (kXc X) H locs k n mc ms (F0 (kXm X) pc ls st0) rest (kQ E post a) (kA E)) (hS : va_S (kA E) (kXs X).heap H locs) (hls : lv_has ls nL lv)
    (kk : ∀ v w', post v w' → kG E X nL (k + mc) (n + ms) w' (pc + 3) lv (v.toList ++ rest)) : kXW X H locs k n (F0 (kXm X) pc ls st0) := by
  intro T hT Y
  obtain ⟨v, st₀, t, T', L, h0, Y', hL, e1, e2, ⟨⟨v', w', hv, hp, hPw⟩, hz, hk⟩, stp⟩ := hr T hT Y
  cases hv
  rw [h0] at hz hk
  obtain ⟨t2, a1, b1⟩ := kk v w' hp T'.heap (locs ++ L) ls (by rw [e1]; exact hPw)
    ⟨Nat.le_trans hS.1 (by rw [e1]; exact hz), fun q h1 h2 => by rw [e1, hk q (Nat.lt_of_lt_of_le h1 hS.1) h2]; exact hS.2.1 q h1 h2, fun q hq => by
      rcases List.mem_append.mp hq with h | h
      · exact hS.2.2 q h
      · exact hL q h⟩ hls T' rfl Y'
  exact ⟨t2, stp t2 a1, b1⟩
theorem k_runX {H : Heap} {locs : List Loc} {ls : Array Slot} {st0 : List Value} {a : Array Value} (hr : vx_Run (kXp X) (kXl X) (kXe X) (kXR X) (kXs X) (kXm X) (kXa X) (kXb X) (kXme X) (kXc X) H locs k n mc ms (F0 (kXm X) pc ls st0) rest (kQ E post a) (kXC E xp) (kA E)) (hS : va_S (kA E) (kXs X).heap H locs) (hls : lv_has ls nL lv)
    (kx : ∀ Ex w', xp Ex w' → kGT E X nL (k + mc) (n + ms) w' pc lv rest Ex)
    (kk : ∀ v w', post v w' → kG E X nL (k + mc) (n + ms) w' (pc + 3) lv (v.toList ++ rest)) : kXW X H locs k n (F0 (kXm X) pc ls st0) := by
  intro T hT Y
  rcases hr T hT Y with ⟨v, st₀, t, T', L, h0, Y', hL, e1, e2, ⟨⟨v', w', hv, hp, hPw⟩, hz, hk⟩, stp⟩ | ⟨q, st₀, t, T', L, Ex, ce, h0, Y', hL, e1, e2, ⟨⟨w', hp, hPw⟩, hz, hk⟩, hce, hcv, hcl, stp⟩
  · cases hv
    rw [h0] at hz hk
    obtain ⟨t2, a1, b1⟩ := kk v w' hp T'.heap (locs ++ L) ls (by rw [e1]; exact hPw)
      ⟨Nat.le_trans hS.1 (by rw [e1]; exact hz), fun q h1 h2 => by rw [e1, hk q (Nat.lt_of_lt_of_le h1 hS.1) h2]; exact hS.2.1 q h1 h2, fun q hq => by
        rcases List.mem_append.mp hq with h | h
        · exact hS.2.2 q h
        · exact hL q h⟩ hls T' rfl Y'
    exact ⟨t2, stp t2 a1, b1⟩
  · rw [h0] at hz hk
    obtain ⟨t2, a1, b1⟩ := kx Ex w' hp T'.heap (locs ++ L) ls q ce (by rw [e1]; exact hPw)
      ⟨Nat.le_trans hS.1 (by rw [e1]; exact hz), fun q h1 h2 => by rw [e1, hk q (Nat.lt_of_lt_of_le h1 hS.1) h2]; exact hS.2.1 q h1 h2, fun q hq => by
        rcases List.mem_append.mp hq with h | h
        · exact hS.2.2 q h
        · exact hL q h⟩ hls (by rw [e1]; exact hce) hcv hcl T' rfl Y'
    exact ⟨t2, stp.trans a1, b1⟩
theorem kcode {c : Cond} (h : c ∈ kAL) : GoodIn kAL (c :: kAL) := kgood _ (fun _ hw => (List.mem_cons.mp hw).elim (fun e => e ▸ h) id)
theorem kblind {av : List Value} {E : kE} {w : kW} : FrameBlind (va_Pc av (fun U => kEnv E U ∧ kP E w U.heap)) := fun _ _ _ _ q => ⟨q.1, q.2.1.calling, q.2.2⟩
theorem kpre {E : kE} {s : State} {w : kW} {H : Heap} {locs : List Loc} (av : List Value) (hE : kEnv E s) (hP : kP E w H) (hS : va_S (kA E) s.heap H locs) : ∀ U : State, U.heap = H → s.WarmedH U.vm → va_Pc av (fun U => kEnv E U ∧ kP E w U.heap) av.toArray U := fun _ hU hW => ⟨rfl, hE.move hW hS hU, by rw [hU]; exact hP⟩
abbrev kRoom (rm rm' : Room) (mL mc ms k n : Nat) : Prop := rm'.cells = mc ∧ rm'.slots = ms ∧ (rm'.frames + 1 ≤ rm.frames ∧ 8 + (mL + 11) + rm'.locals ≤ rm.locals) ∧ (k + mc ≤ rm.cells ∧ n + ms ≤ rm.slots)
theorem k_callV (h : kOk E X cc own nL rm) {y : MethodName} {b : ByteArray} {mL np : Nat} {ret : Option FieldType} {rm' : Room} {index : Nat} {a : Nat} {As : List Value} {ci : Nat} {fs : List Value} {T : u_T} {N : Nat} (hy : kYV y b mL ret np) (hlink : Cond.methodLink own index y ∈ kAL) (hM : kM E (kXl X) y (.code y b mL ret :: kAL) rm' mc ms (.ref a :: As) w post) (q : Nat) (he : w q = some (a, .inr (ci, fs))) (hc : vwCl[ci]? = some (y.cls, T, N)) (hn : As.length = np) (hst : st = As.reverse ++ .ref a :: rest) (hW : (rest.map fun v => v.category).sum ≤ 8) (hr : kRoom rm rm' mL mc ms k n) (hdg : decode cc pc = .ok (.invokevirtual index, 3))
    (kk : ∀ v w', post v w' → kG E X nL (k + mc) (n + ms) w' (pc + 3) lv (v.toList ++ rest)) : kG E X nL k n w pc lv st := by
  obtain ⟨y1, y2, y3, y4, y5⟩ := hy
  obtain ⟨r1, r2, r3, r4⟩ := hr
  subst hst
  intro H locs ls hP hS hls
  have hts := h.2.2.2.2.1
  have hR : kXR X = rm := h.2.2.2.2.2.2.2.2
  exact k_run (va_runV (As := As) (rest := rest) ⟨h.1, h.2.1, h.2.2.1, h.2.2.2.1, hts⟩ hM ⟨callB_of np hts (kcode y1) rfl r1 r2 (hts _ y4) (hts _ hlink) y5 (by rw [hR]; exact r3), hts _ y2, hts _ y3⟩ ⟨kblind, va_recv h.2.2.2.2.2.1.1 (hP.one he) hc (q0 := 0) rfl, kpre _ h.2.2.2.2.2.1 hP hS⟩ rfl hn hls.1 rfl (lv_room hW) hdg (by rw [hR]; exact r4)) hS hls kk
theorem k_callVX (h : kOk E X cc own nL rm) {y : MethodName} {b : ByteArray} {mL np : Nat} {ret : Option FieldType} {rm' : Room} {index : Nat} {a : Nat} {As : List Value} {ci : Nat} {fs : List Value} {T : u_T} {N : Nat} (hy : kYV y b mL ret np) (hlink : Cond.methodLink own index y ∈ kAL) (hM : kMX E (kXl X) y (.code y b mL ret :: kAL) rm' mc ms (.ref a :: As) w post xp) (q : Nat) (he : w q = some (a, .inr (ci, fs))) (hc : vwCl[ci]? = some (y.cls, T, N)) (hn : As.length = np) (hst : st = As.reverse ++ .ref a :: rest) (hW : (rest.map fun v => v.category).sum ≤ 8) (hr : kRoom rm rm' mL mc ms k n) (hdg : decode cc pc = .ok (.invokevirtual index, 3))
    (kx : ∀ Ex w', xp Ex w' → kGT E X nL (k + mc) (n + ms) w' pc lv rest Ex)
    (kk : ∀ v w', post v w' → kG E X nL (k + mc) (n + ms) w' (pc + 3) lv (v.toList ++ rest)) : kG E X nL k n w pc lv st := by
  obtain ⟨y1, y2, y3, y4, y5⟩ := hy
  obtain ⟨r1, r2, r3, r4⟩ := hr
  subst hst
  intro H locs ls hP hS hls
  have hts := h.2.2.2.2.1
  have hR : kXR X = rm := h.2.2.2.2.2.2.2.2
  exact k_runX (vx_runV (As := As) (rest := rest) ⟨h.1, h.2.1, h.2.2.1, h.2.2.2.1, hts⟩ hM ⟨callB_of np hts (kcode y1) rfl r1 r2 (hts _ y4) (hts _ hlink) y5 (by rw [hR]; exact r3), hts _ y2, hts _ y3⟩ ⟨kblind, va_recv h.2.2.2.2.2.1.1 (hP.one he) hc (q0 := 0) rfl, kpre _ h.2.2.2.2.2.1 hP hS⟩ rfl hn hls.1 rfl (lv_room hW) hdg (by rw [hR]; exact r4)) hS hls kx kk
theorem kcwS (h : kOk E X cc own nL rm) {y : MethodName} {b : ByteArray} {mL np : Nat} {ret : Option FieldType} {rm' : Room} {index : Nat} (hy : kYS y b mL ret np) (hlink : Cond.methodLink own index y ∈ kAL) (hr : kRoom rm rm' mL mc ms k n) : CallB (kXR X) (kXs X) (kXa X) own index y b mL ret (.code y b mL ret :: kAL) rm' mc ms np ∧ (Cond.static y).before (kXa X) (kXs X) = true := by
  obtain ⟨y1, y2, y4, y5⟩ := hy
  obtain ⟨r1, r2, r3, r4⟩ := hr
  have hts := h.2.2.2.2.1
  have hR : kXR X = rm := h.2.2.2.2.2.2.2.2
  exact ⟨callB_of np hts (kcode y1) rfl r1 r2 (hts _ y4) (hts _ hlink) y5 (by rw [hR]; exact r3), hts _ y2⟩
theorem k_callS (h : kOk E X cc own nL rm) {y : MethodName} {b : ByteArray} {mL np : Nat} {ret : Option FieldType} {rm' : Room} {index : Nat} {As : List Value} (hy : kYS y b mL ret np) (hlink : Cond.methodLink own index y ∈ kAL) (hM : kM E (kXl X) y (.code y b mL ret :: kAL) rm' mc ms As w post) (hn : As.length = np) (hst : st = As.reverse ++ rest) (hW : (rest.map fun v => v.category).sum ≤ 8) (hr : kRoom rm rm' mL mc ms k n) (hdg : decode cc pc = .ok (.invokestatic index, 3))
    (kk : ∀ v w', post v w' → kG E X nL (k + mc) (n + ms) w' (pc + 3) lv (v.toList ++ rest)) : kG E X nL k n w pc lv st := by
  have hcw := kcwS h hy hlink hr
  obtain ⟨r1, r2, r3, r4⟩ := hr
  subst hst
  intro H locs ls hP hS hls
  have hR : kXR X = rm := h.2.2.2.2.2.2.2.2
  exact k_run (va_runS (As := As) (rest := rest) ⟨h.1, h.2.1, h.2.2.1, h.2.2.2.1, h.2.2.2.2.1⟩ hM hcw ⟨kblind, kpre _ h.2.2.2.2.2.1 hP hS⟩ rfl hn hls.1 rfl (lv_room hW) hdg (by rw [hR]; exact r4)) hS hls kk
theorem k_callSX (h : kOk E X cc own nL rm) {y : MethodName} {b : ByteArray} {mL np : Nat} {ret : Option FieldType} {rm' : Room} {index : Nat} {As : List Value} (hy : kYS y b mL ret np) (hlink : Cond.methodLink own index y ∈ kAL) (hM : kMX E (kXl X) y (.code y b mL ret :: kAL) rm' mc ms As w post xp) (hn : As.length = np) (hst : st = As.reverse ++ rest) (hW : (rest.map fun v => v.category).sum ≤ 8) (hr : kRoom rm rm' mL mc ms k n) (hdg : decode cc pc = .ok (.invokestatic index, 3))
    (kx : ∀ Ex w', xp Ex w' → kGT E X nL (k + mc) (n + ms) w' pc lv rest Ex)
    (kk : ∀ v w', post v w' → kG E X nL (k + mc) (n + ms) w' (pc + 3) lv (v.toList ++ rest)) : kG E X nL k n w pc lv st := by
  have hcw := kcwS h hy hlink hr
  obtain ⟨r1, r2, r3, r4⟩ := hr
  subst hst
  intro H locs ls hP hS hls
  have hR : kXR X = rm := h.2.2.2.2.2.2.2.2
  exact k_runX (vx_runS (As := As) (rest := rest) ⟨h.1, h.2.1, h.2.2.1, h.2.2.2.1, h.2.2.2.2.1⟩ hM hcw ⟨kblind, kpre _ h.2.2.2.2.2.1 hP hS⟩ rfl hn hls.1 rfl (lv_room hW) hdg (by rw [hR]; exact r4)) hS hls kx kk
theorem k_callSN (h : kOk E X cc own nL rm) {y : MethodName} {b : ByteArray} {mL np : Nat} {ret : Option FieldType} {rm' : Room} {index : Nat} {host : String} {As : List Value} (hy : kYS y b mL ret np) (hlink : Cond.methodLinkNest own index y host ∈ kBL) (hM : kM E (kXl X) y (.code y b mL ret :: kAL) rm' mc ms As w post) (hn : As.length = np) (hst : st = As.reverse ++ rest) (hW : (rest.map fun v => v.category).sum ≤ 8) (hr : kRoom rm rm' mL mc ms k n) (hdg : decode cc pc = .ok (.invokestatic index, 3))
    (kk : ∀ v w', post v w' → kG E X nL (k + mc) (n + ms) w' (pc + 3) lv (v.toList ++ rest)) : kG E X nL k n w pc lv st := by
  obtain ⟨y1, y2, y4, y5⟩ := hy
  obtain ⟨r1, r2, r3, r4⟩ := hr
  subst hst
  intro H locs ls hP hS hls
  have hts := h.2.2.2.2.1
  have hR : kXR X = rm := h.2.2.2.2.2.2.2.2
  exact k_run (va_runSN (As := As) (rest := rest) ⟨h.1, h.2.1, h.2.2.1, h.2.2.2.1, hts⟩ hM ⟨va_cnB np hts (kcode y1) rfl r1 r2 (h.2.2.2.2.2.1.2.1 _ hlink) (hts _ y4) y5 (by rw [hR]; exact r3), hts _ y2, trivial⟩ ⟨kblind, kpre _ h.2.2.2.2.2.1 hP hS⟩ rfl hn hls.1 rfl (lv_room hW) hdg (by rw [hR]; exact r4)) hS hls kk
theorem k_callI (h : kOk E X cc own nL rm) {y : MethodName} {b : ByteArray} {mL np : Nat} {rm' : Room} {index : Nat} {a : Nat} {As : List Value} (hy : kYI y b mL np) (hlink : Cond.methodLink own index y ∈ kAL) (hM : kM E (kXl X) y (.code y b mL none :: kAL) rm' mc ms (.ref a :: As) w post) (hn : As.length = np) (hst : st = As.reverse ++ .ref a :: rest) (hW : (rest.map fun v => v.category).sum ≤ 8) (hr : kRoom rm rm' mL mc ms k n) (hdg : decode cc pc = .ok (.invokespecial index, 3))
    (kk : ∀ v w', post v w' → kG E X nL (k + mc) (n + ms) w' (pc + 3) lv (v.toList ++ rest)) : kG E X nL k n w pc lv st := by
  obtain ⟨y1, y2, y4, y5, y6⟩ := hy
  obtain ⟨r1, r2, r3, r4⟩ := hr
  subst hst
  intro H locs ls hP hS hls
  have hts := h.2.2.2.2.1
  have hR : kXR X = rm := h.2.2.2.2.2.2.2.2
  exact k_run (va_runI (As := As) (rest := rest) ⟨h.1, h.2.1, h.2.2.1, h.2.2.2.1, hts⟩ hM ⟨callB_of np hts (kcode y1) rfl r1 r2 (hts _ y4) (hts _ hlink) y5 (by rw [hR]; exact r3), y6, hts _ y2⟩ ⟨kblind, kpre _ h.2.2.2.2.2.1 hP hS⟩ rfl hn hls.1 rfl (lv_room hW) hdg (by rw [hR]; exact r4)) hS hls kk
theorem k_callIN (h : kOk E X cc own nL rm) {y : MethodName} {b : ByteArray} {mL np : Nat} {rm' : Room} {index : Nat} {host : String} {a : Nat} {As : List Value} (hy : kYI y b mL np) (hlink : Cond.methodLinkNest own index y host ∈ kBL) (hM : kM E (kXl X) y (.code y b mL none :: kAL) rm' mc ms (.ref a :: As) w post) (hn : As.length = np) (hst : st = As.reverse ++ .ref a :: rest) (hW : (rest.map fun v => v.category).sum ≤ 8) (hr : kRoom rm rm' mL mc ms k n) (hdg : decode cc pc = .ok (.invokespecial index, 3))
    (kk : ∀ v w', post v w' → kG E X nL (k + mc) (n + ms) w' (pc + 3) lv (v.toList ++ rest)) : kG E X nL k n w pc lv st := by
  obtain ⟨y1, y2, y4, y5, y6⟩ := hy
  obtain ⟨r1, r2, r3, r4⟩ := hr
  subst hst
  intro H locs ls hP hS hls
  have hts := h.2.2.2.2.1
  have hR : kXR X = rm := h.2.2.2.2.2.2.2.2
  exact k_run (va_runIN (As := As) (rest := rest) ⟨h.1, h.2.1, h.2.2.1, h.2.2.2.1, hts⟩ hM ⟨va_cnB np hts (kcode y1) rfl r1 r2 (h.2.2.2.2.2.1.2.1 _ hlink) (hts _ y4) y5 (by rw [hR]; exact r3), y6, hts _ y2⟩ ⟨kblind, kpre _ h.2.2.2.2.2.1 hP hS⟩ rfl hn hls.1 rfl (lv_room hW) hdg (by rw [hR]; exact r4)) hS hls kk
theorem k_callSW (h : kOk E X cc own nL rm) {y : MethodName} {b : ByteArray} {mL np : Nat} {ret : Option FieldType} {hh : List (Nat × Nat × Nat × Nat)} {rm' : Room} {index : Nat} {As : List Value} (hy : kYW y b mL ret hh np) (hlink : Cond.methodLink own index y ∈ kAL) (hM : kM E (kXl X) y (.codeWith y b mL ret hh :: kAL) rm' mc ms As w post) (hn : As.length = np) (hst : st = As.reverse ++ rest) (hW : (rest.map fun v => v.category).sum ≤ 8) (hr : kRoom rm rm' mL mc ms k n) (hdg : decode cc pc = .ok (.invokestatic index, 3))
    (kk : ∀ v w', post v w' → kG E X nL (k + mc) (n + ms) w' (pc + 3) lv (v.toList ++ rest)) : kG E X nL k n w pc lv st := by
  obtain ⟨y1, y2, y4, y5⟩ := hy
  obtain ⟨r1, r2, r3, r4⟩ := hr
  subst hst
  intro H locs ls hP hS hls
  have hts := h.2.2.2.2.1
  have hR : kXR X = rm := h.2.2.2.2.2.2.2.2
  have hT : GoodIn kAL (va_wsS own index y (Cond.codeWith y b mL ret hh :: kAL)) := kgood _ (fun w hw => by
    unfold va_wsS at hw
    rcases List.mem_append.mp hw with hw | hw
    · simp only [List.mem_cons, List.not_mem_nil, or_false] at hw
      rcases hw with rfl | rfl | rfl
      · exact hlink
      · exact y2
      · exact y4
    · exact (List.mem_cons.mp hw).elim (fun e => e ▸ y1) id)
  exact k_run (vx_runSW (As := As) (rest := rest) ⟨h.1, h.2.1, h.2.2.1, h.2.2.2.1, hts⟩ hM (vx_cwSW np hts hT rfl r1 r2 y5 (by rw [hR]; exact r3)) ⟨kblind, kpre _ h.2.2.2.2.2.1 hP hS⟩ rfl hn hls.1 rfl (lv_room hW) hdg (by rw [hR]; exact r4)) hS hls kk
/-- typed continuations -/
theorem kcI {P : Int → kW → Prop} (kk : ∀ (z : Int) (w' : kW), P z w' → kG E X nL (k + mc) (n + ms) w' (pc + 3) lv (.int (iI z) :: rest)) : ∀ v w', pI P v w' → kG E X nL (k + mc) (n + ms) w' (pc + 3) lv (v.toList ++ rest) := by
  rintro v w' ⟨z, rfl, hp⟩
  exact kk z w' hp
theorem kcV {P : kW → Prop} (kk : ∀ (w' : kW), P w' → kG E X nL (k + mc) (n + ms) w' (pc + 3) lv rest) : ∀ v w', pV P v w' → kG E X nL (k + mc) (n + ms) w' (pc + 3) lv (v.toList ++ rest) := by
  rintro v w' ⟨rfl, hp⟩
  exact kk w' hp
theorem kcR {P : Nat → kW → Prop} (kk : ∀ (a : Nat) (w' : kW), P a w' → kG E X nL (k + mc) (n + ms) w' (pc + 3) lv (.ref a :: rest)) : ∀ v w', pR P v w' → kG E X nL (k + mc) (n + ms) w' (pc + 3) lv (v.toList ++ rest) := by
  rintro v w' ⟨z, rfl, hp⟩
  exact kk z w' hp
theorem kcQ {P : Option Nat → kW → Prop} (kk : ∀ (a : Option Nat) (w' : kW), P a w' → kG E X nL (k + mc) (n + ms) w' (pc + 3) lv (va_rf a :: rest)) : ∀ v w', pQ P v w' → kG E X nL (k + mc) (n + ms) w' (pc + 3) lv (v.toList ++ rest) := by
  rintro v w' ⟨z, rfl, hp⟩
  exact kk z w' hp
theorem kcL {P : Int → kW → Prop} (kk : ∀ (z : Int) (w' : kW), P z w' → kG E X nL (k + mc) (n + ms) w' (pc + 3) lv (.long (lI z) :: rest)) : ∀ v w', pL P v w' → kG E X nL (k + mc) (n + ms) w' (pc + 3) lv (v.toList ++ rest) := by
  rintro v w' ⟨z, rfl, hp⟩
  exact kk z w' hp
theorem kcF {P : UInt32 → kW → Prop} (kk : ∀ (z : UInt32) (w' : kW), P z w' → kG E X nL (k + mc) (n + ms) w' (pc + 3) lv (.float z :: rest)) : ∀ v w', pF P v w' → kG E X nL (k + mc) (n + ms) w' (pc + 3) lv (v.toList ++ rest) := by
  rintro v w' ⟨z, rfl, hp⟩
  exact kk z w' hp
theorem kcD {P : UInt64 → kW → Prop} (kk : ∀ (z : UInt64) (w' : kW), P z w' → kG E X nL (k + mc) (n + ms) w' (pc + 3) lv (.double z :: rest)) : ∀ v w', pD P v w' → kG E X nL (k + mc) (n + ms) w' (pc + 3) lv (v.toList ++ rest) := by
  rintro v w' ⟨z, rfl, hp⟩
  exact kk z w' hp
/-- ends -/
theorem kW_mono {p : Program} {l : Launch} {e : Env} {R : Room} {s : State} {m : MethodId} {args : Array Value} {below : List Frame} {meth : Method} {c : Code} {H : Heap} {locs : List Loc} {Q1 Q2 : State → Prop} {g : JFrame} (hq : ∀ t, Q1 t → Q2 t) (hh : W p l e R s m args below meth c H locs k n Q1 g) : W p l e R s m args below meth c H locs k n Q2 g := fun T hT Y => by
  obtain ⟨t, a, b⟩ := hh T hT Y
  exact ⟨t, a, hq t b⟩
theorem k_iret (h : kOk E X cc own nL rm) {ty : FieldType} {z : Int} (hr : kRet E X (some ty) post mc ms) (hty : narrow ty (.int (iI z)) = .int (iI z)) (hp : post (some (.int (iI z))) w) (hk : k ≤ mc) (hn : n ≤ ms) (hdg : decode cc pc = .ok (.ireturn, 1)) : kG E X nL k n w pc lv [.int (iI z)] := by
  intro H locs ls hP hS hls
  refine W.widen hk hn (kW_mono hr.2 ?_)
  exact W.zret h.1 h.2.1 hr.1 hty (fun t ht hW => ⟨⟨_, w, rfl, hp, by rw [ht]; exact hP⟩, hS.F ht⟩) hS.2.2 hdg h.2.2.2.2.2.2.1
theorem k_vret (h : kOk E X cc own nL rm) (hr : kRet E X none post mc ms) (hp : post none w) (hk : k ≤ mc) (hn : n ≤ ms) (hdg : decode cc pc = .ok (.return_, 1)) : kG E X nL k n w pc lv [] := by
  intro H locs ls hP hS hls
  refine W.widen hk hn (kW_mono hr.2 ?_)
  exact W.vret h.1 h.2.1 hr.1 (fun t ht hW => ⟨⟨_, w, rfl, hp, by rw [ht]; exact hP⟩, hS.F ht⟩) hS.2.2 hdg h.2.2.2.2.2.2.1
theorem k_aret (h : kOk E X cc own nL rm) {nm : String} {a : Nat} (hr : kRet E X (some (.object nm)) post mc ms) (hp : post (some (.ref a)) w) (hk : k ≤ mc) (hn : n ≤ ms) (hdg : decode cc pc = .ok (.areturn, 1)) : kG E X nL k n w pc lv [.ref a] := by
  intro H locs ls hP hS hls
  refine W.widen hk hn (kW_mono hr.2 ?_)
  exact W.aret h.1 h.2.1 hr.1 (Or.inl ⟨_, rfl⟩) (Or.inr ⟨_, rfl⟩) (fun t ht hW => ⟨⟨_, w, rfl, hp, by rw [ht]; exact hP⟩, hS.F ht⟩) hS.2.2 hdg h.2.2.2.2.2.2.1
theorem k_aretN (h : kOk E X cc own nL rm) {nm : String} (hr : kRet E X (some (.object nm)) post mc ms) (hp : post (some .null) w) (hk : k ≤ mc) (hn : n ≤ ms) (hdg : decode cc pc = .ok (.areturn, 1)) : kG E X nL k n w pc lv [.null] := by
  intro H locs ls hP hS hls
  refine W.widen hk hn (kW_mono hr.2 ?_)
  exact W.aret h.1 h.2.1 hr.1 (Or.inl ⟨_, rfl⟩) (Or.inl rfl) (fun t ht hW => ⟨⟨_, w, rfl, hp, by rw [ht]; exact hP⟩, hS.F ht⟩) hS.2.2 hdg h.2.2.2.2.2.2.1
theorem k_lret (h : kOk E X cc own nL rm) {z : Int} (hr : kRet E X (some .long) post mc ms) (hp : post (some (.long (lI z))) w) (hk : k ≤ mc) (hn : n ≤ ms) (hdg : decode cc pc = .ok (.lreturn, 1)) : kG E X nL k n w pc lv [.long (lI z)] := by
  intro H locs ls hP hS hls
  refine W.widen hk hn (kW_mono hr.2 ?_)
  exact W.lret h.1 h.2.1 hr.1 (fun t ht hW => ⟨⟨_, w, rfl, hp, by rw [ht]; exact hP⟩, hS.F ht⟩) hS.2.2 hdg h.2.2.2.2.2.2.1
theorem k_fret (h : kOk E X cc own nL rm) {z : UInt32} (hr : kRet E X (some .float) post mc ms) (hp : post (some (.float z)) w) (hk : k ≤ mc) (hn : n ≤ ms) (hdg : decode cc pc = .ok (.freturn, 1)) : kG E X nL k n w pc lv [.float z] := by
  intro H locs ls hP hS hls
  refine W.widen hk hn (kW_mono hr.2 ?_)
  exact W.fret h.1 h.2.1 hr.1 (fun t ht hW => ⟨⟨_, w, rfl, hp, by rw [ht]; exact hP⟩, hS.F ht⟩) hS.2.2 hdg h.2.2.2.2.2.2.1
theorem k_dret (h : kOk E X cc own nL rm) {z : UInt64} (hr : kRet E X (some .double) post mc ms) (hp : post (some (.double z)) w) (hk : k ≤ mc) (hn : n ≤ ms) (hdg : decode cc pc = .ok (.dreturn, 1)) : kG E X nL k n w pc lv [.double z] := by
  intro H locs ls hP hS hls
  refine W.widen hk hn (kW_mono hr.2 ?_)
  exact W.dret h.1 h.2.1 hr.1 (fun t ht hW => ⟨⟨_, w, rfl, hp, by rw [ht]; exact hP⟩, hS.F ht⟩) hS.2.2 hdg h.2.2.2.2.2.2.1
/-- what a callee has thrown goes on to the caller -/
theorem k_out (h : kOk E X cc own nL rm) {ret : Option FieldType} {Ex : String} (hr : kRetX E X ret post xp mc ms) (hp : xp Ex w) (hk : k ≤ mc) (hn : n ≤ ms) : kGT E X nL k n w pc lv st Ex := by
  intro H locs ls q ce hP hS hls hcell hv hcl T hT Y
  obtain ⟨t, a, b⟩ := vx_out (XC := kXC E xp) (Qc := kQ E post) (fun x hx => (hr.2.1 x hx).elim) h.2.2.2.2.2.2.1 hcell hv hcl (fun t ht hA => (⟨⟨w, hp, by rw [ht]; exact hP⟩, hS.F ht⟩ : kXC E xp Ex (kXs X) t)) hS.2.2 hk hn T hT Y
  exact ⟨t, a, hr.2.2 t b⟩
/-- throw new E() -/
theorem k_throw0 (h : kOk E X cc own nL rm) {ret : Option FieldType} {cls : String} {names : List String} {ik ic : Nat} (hr : kRetX E X ret post xp mc ms) (hcls : Bundle.fit cls = true) (hnames : ∀ n ∈ names, Bundle.fit n = true) (hk : Cond.classLink own ik cls ∈ kAL) (hini : Cond.initialized cls ∈ kAL) (hat1 : ∀ w ∈ (vx_at0 own ic cls names).filter goodWord, w ∈ kAL) (hat2 : ∀ w ∈ (vx_at0 own ic cls names).filter (fun w => !goodWord w), w ∈ kBL)
    (hgood : ∀ w ∈ Cond.classLink own ik cls :: Cond.initialized cls :: vx_at0 own ic cls names, vx_ot w = true)
    (d0 : decode cc pc = .ok (.new ik, 3)) (d3 : decode cc (pc + 3) = .ok (.dup, 1)) (d4 : decode cc (pc + 4) = .ok (.invokespecial ic, 3)) (d7 : decode cc (pc + 7) = .ok (.athrow, 1))
    (hrm : names.length + 3 < rm.frames ∧ (st.map fun v => v.category).sum + (13 * (names.length + 1) + 42) ≤ rm.locals ∧ k + 1 ≤ rm.cells ∧ n + 6 ≤ rm.slots) (hp : xp cls w) (hc : k + 1 ≤ mc) (hs : n + 6 ≤ ms) : kG E X nL k n w pc lv st := by
  intro H locs ls hP hS hls
  have hts := h.2.2.2.2.1
  have hE := h.2.2.2.2.2.1
  have hR : kXR X = rm := h.2.2.2.2.2.2.2.2
  have hat : ∀ w ∈ vx_at0 own ic cls names, w.before (kXa X) (kXs X) = true := by
    intro w hw
    by_cases g : goodWord w = true
    · exact hts w (hat1 w (List.mem_filter.mpr ⟨hw, g⟩))
    · have hb := hat2 w (List.mem_filter.mpr ⟨hw, by cases hgw : goodWord w <;> simp_all⟩)
      have hs := (List.mem_filter.mp hb).2
      exact va_Nw.use (by cases w <;> first | rfl | cases hs) (hE.2.1 w hb)
  refine kW_mono hr.2.2 (vx_throw0 (names := names) h.1 h.2.1 h.2.2.2.2.2.2.2.1 h.2.2.2.1 hcls hnames (hts _ hk) (hts _ hini) hat hgood hE.2.2.2.2.1 hE.2.2.2.2.2.1 hS (hls.1.trans h.2.2.1.symm) d0 d3 d4 d7 (fun x hx => (hr.2.1 x hx).elim) (by rw [hR]; exact hrm.1) (by rw [hR]; exact hrm.2.1) (by rw [hR]; exact hrm.2.2.1) (by rw [hR]; exact hrm.2.2.2) h.2.2.2.2.2.2.1 ?_ hS.2.2 hc hs)
  intro t hA hz hq
  exact ⟨⟨w, hp, hP.kept hq⟩, Nat.le_trans hS.1 hz, fun q h1 h2 => (hq q (Nat.lt_of_lt_of_le h1 hS.1)).trans (hS.2.1 q h1 h2)⟩
end KCALLS
