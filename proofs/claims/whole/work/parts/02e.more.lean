/-! booleans, chars, the words of throws. Mine. -/
noncomputable def bI (p : Prop) : Int := @ite _ p (Classical.propDecidable p) 1 0
theorem bI_nar {p : Prop} : narrow .boolean (.int (iI (bI p))) = .int (iI (bI p)) := by unfold bI; split <;> rfl
theorem bI_rg {p : Prop} : -2147483648 ≤ bI p ∧ bI p < 2147483648 := by unfold bI; split <;> omega
theorem bI_0 {p : Prop} : bI p = 0 ↔ ¬ p := by unfold bI; split <;> simp_all
theorem bI_t {p : Prop} (h : p) : bI p = 1 := by unfold bI; exact if_pos h
theorem bI_f {p : Prop} (h : ¬ p) : bI p = 0 := by unfold bI; exact if_neg h
theorem bI_iff {p q : Prop} (h : p ↔ q) : bI p = bI q := by rw [propext h]
theorem iI_chn {z : Int} (hz : 0 ≤ z ∧ z < 65536) : narrow .char (.int (iI z)) = .int (iI z) := by
  obtain ⟨m, rfl⟩ : ∃ m : Nat, z = m := ⟨z.toNat, by omega⟩
  rw [iI_nat]
  exact (pk_charN (q := m) (by omega)).1
theorem iI_chv {z : Int} (hz : 0 ≤ z ∧ z < 65536) : vp_nar .char (iI z) = iI z := by
  have h := iI_chn hz
  unfold vp_nar
  rw [h]
section KB
variable {E : kE} {X : kX} {cc : ByteArray} {own : String} {nL k n pc : Nat} {rm : Room} {w : kW} {lv : List (Nat × Value)} {st : List Value}
theorem k_ifBeq (h : kOk E X cc own nL rm) {p : Prop} {off : Int} (tgt : Nat) (hdg : decode cc pc = .ok (.ifCond .eq off, 3)) (ht : (pc : Int) + off = (tgt : Int)) (kt : ¬ p → kG E X nL k n w tgt lv st) (kf : p → kG E X nL k n w (pc + 3) lv st) : kG E X nL k n w pc lv (.int (iI (bI p)) :: st) :=
  k_ifeq h tgt bI_rg hdg ht (fun e => kt (bI_0.mp e)) (fun e => kf (Classical.byContradiction fun q => e (bI_0.mpr q)))
theorem k_ifBne (h : kOk E X cc own nL rm) {p : Prop} {off : Int} (tgt : Nat) (hdg : decode cc pc = .ok (.ifCond .ne off, 3)) (ht : (pc : Int) + off = (tgt : Int)) (kt : p → kG E X nL k n w tgt lv st) (kf : ¬ p → kG E X nL k n w (pc + 3) lv st) : kG E X nL k n w pc lv (.int (iI (bI p)) :: st) :=
  k_ifne h tgt bI_rg hdg ht (fun e => kt (Classical.byContradiction fun q => e (bI_0.mpr q))) (fun e => kf (bI_0.mp e))
theorem k_top {z z' : Int} (e : z = z') (kk : kG E X nL k n w pc lv (.int (iI z') :: st)) : kG E X nL k n w pc lv (.int (iI z) :: st) := e ▸ kk
theorem k_topL {z z' : Int} (e : z = z') (kk : kG E X nL k n w pc lv (.long (lI z') :: st)) : kG E X nL k n w pc lv (.long (lI z) :: st) := e ▸ kk
theorem k_topQ {z : Option Nat} {a : Nat} (e : z = some a) (kk : kG E X nL k n w pc lv (.ref a :: st)) : kG E X nL k n w pc lv (va_rf z :: st) := by subst e; exact kk
theorem k_topN {z : Option Nat} (e : z = none) (kk : kG E X nL k n w pc lv (.null :: st)) : kG E X nL k n w pc lv (va_rf z :: st) := by subst e; exact kk
end KB
theorem kset_kset {w : kW} {k a b : Nat} {c d : kC} : kset (kset w k a c) k b d = kset w k b d := by
  funext j
  unfold kset
  split <;> rfl
theorem kset_comm {w : kW} {k l a b : Nat} {c d : kC} (h : k ≠ l) : kset (kset w k a c) l b d = kset (kset w l b d) k a c := by
  funext j
  unfold kset
  by_cases h1 : j = k <;> by_cases h2 : j = l <;> simp_all
theorem kset_id {w : kW} {k a : Nat} {c : kC} (h : w k = some (a, c)) : kset w k a c = w := by
  funext j
  unfold kset
  split
  · subst_vars; exact h.symm
  · rfl
theorem kup_kup {α : Type} {f : Nat → α} {k : Nat} {x y : α} : kup (kup f k x) k y = kup f k y := by
  funext j
  unfold kup
  split <;> rfl
/-- the worlds agree but at some keys -/
def kEx (w w2 : kW) (ks : Nat → Prop) : Prop := ∀ j, ¬ ks j → w2 j = w j
theorem kx0_IAE : ∀ w ∈ (vx_at0 RX6 60 "java/lang/IllegalArgumentException" ["java/lang/RuntimeException", "java/lang/Exception"]).filter goodWord, w ∈ lw_tbl := by decide +kernel
theorem kx1_IAE : ∀ w ∈ (vx_at0 RX6 60 "java/lang/IllegalArgumentException" ["java/lang/RuntimeException", "java/lang/Exception"]).filter goodWord, w ∈ kAL := fun w h => List.mem_filter.mpr ⟨kx0_IAE w h, (List.mem_filter.mp h).2⟩
theorem kx2_IAE : ∀ w ∈ (vx_at0 RX6 60 "java/lang/IllegalArgumentException" ["java/lang/RuntimeException", "java/lang/Exception"]).filter (fun w => !goodWord w), w ∈ kBL := fun w h => List.mem_filter.mpr ((by decide +kernel : ∀ w ∈ (vx_at0 RX6 60 "java/lang/IllegalArgumentException" ["java/lang/RuntimeException", "java/lang/Exception"]).filter (fun w => !goodWord w), w ∈ lw_tbl ∧ kSP w = true) w h)
theorem kx3_IAE : ∀ w ∈ Cond.classLink RX6 58 "java/lang/IllegalArgumentException" :: Cond.initialized "java/lang/IllegalArgumentException" :: vx_at0 RX6 60 "java/lang/IllegalArgumentException" ["java/lang/RuntimeException", "java/lang/Exception"], vx_ot w = true := by decide +kernel
theorem kx0_ISE : ∀ w ∈ (vx_at0 RX6 67 "java/lang/IllegalStateException" ["java/lang/RuntimeException", "java/lang/Exception"]).filter goodWord, w ∈ lw_tbl := by decide +kernel
theorem kx1_ISE : ∀ w ∈ (vx_at0 RX6 67 "java/lang/IllegalStateException" ["java/lang/RuntimeException", "java/lang/Exception"]).filter goodWord, w ∈ kAL := fun w h => List.mem_filter.mpr ⟨kx0_ISE w h, (List.mem_filter.mp h).2⟩
theorem kx2_ISE : ∀ w ∈ (vx_at0 RX6 67 "java/lang/IllegalStateException" ["java/lang/RuntimeException", "java/lang/Exception"]).filter (fun w => !goodWord w), w ∈ kBL := fun w h => List.mem_filter.mpr ((by decide +kernel : ∀ w ∈ (vx_at0 RX6 67 "java/lang/IllegalStateException" ["java/lang/RuntimeException", "java/lang/Exception"]).filter (fun w => !goodWord w), w ∈ lw_tbl ∧ kSP w = true) w h)
theorem kx3_ISE : ∀ w ∈ Cond.classLink RX6 65 "java/lang/IllegalStateException" :: Cond.initialized "java/lang/IllegalStateException" :: vx_at0 RX6 67 "java/lang/IllegalStateException" ["java/lang/RuntimeException", "java/lang/Exception"], vx_ot w = true := by decide +kernel
theorem kx0_NSE : ∀ w ∈ (vx_at0 RX6 170 "java/util/NoSuchElementException" ["java/lang/RuntimeException", "java/lang/Exception"]).filter goodWord, w ∈ lw_tbl := by decide +kernel
theorem kx1_NSE : ∀ w ∈ (vx_at0 RX6 170 "java/util/NoSuchElementException" ["java/lang/RuntimeException", "java/lang/Exception"]).filter goodWord, w ∈ kAL := fun w h => List.mem_filter.mpr ⟨kx0_NSE w h, (List.mem_filter.mp h).2⟩
theorem kx2_NSE : ∀ w ∈ (vx_at0 RX6 170 "java/util/NoSuchElementException" ["java/lang/RuntimeException", "java/lang/Exception"]).filter (fun w => !goodWord w), w ∈ kBL := fun w h => List.mem_filter.mpr ((by decide +kernel : ∀ w ∈ (vx_at0 RX6 170 "java/util/NoSuchElementException" ["java/lang/RuntimeException", "java/lang/Exception"]).filter (fun w => !goodWord w), w ∈ lw_tbl ∧ kSP w = true) w h)
theorem kx3_NSE : ∀ w ∈ Cond.classLink RX6 168 "java/util/NoSuchElementException" :: Cond.initialized "java/util/NoSuchElementException" :: vx_at0 RX6 170 "java/util/NoSuchElementException" ["java/lang/RuntimeException", "java/lang/Exception"], vx_ot w = true := by decide +kernel
theorem kx0_IOB : ∀ w ∈ (vx_at0 RX6 221 "java/lang/IndexOutOfBoundsException" ["java/lang/RuntimeException", "java/lang/Exception"]).filter goodWord, w ∈ lw_tbl := by decide +kernel
theorem kx1_IOB : ∀ w ∈ (vx_at0 RX6 221 "java/lang/IndexOutOfBoundsException" ["java/lang/RuntimeException", "java/lang/Exception"]).filter goodWord, w ∈ kAL := fun w h => List.mem_filter.mpr ⟨kx0_IOB w h, (List.mem_filter.mp h).2⟩
theorem kx2_IOB : ∀ w ∈ (vx_at0 RX6 221 "java/lang/IndexOutOfBoundsException" ["java/lang/RuntimeException", "java/lang/Exception"]).filter (fun w => !goodWord w), w ∈ kBL := fun w h => List.mem_filter.mpr ((by decide +kernel : ∀ w ∈ (vx_at0 RX6 221 "java/lang/IndexOutOfBoundsException" ["java/lang/RuntimeException", "java/lang/Exception"]).filter (fun w => !goodWord w), w ∈ lw_tbl ∧ kSP w = true) w h)
theorem kx3_IOB : ∀ w ∈ Cond.classLink RX6 219 "java/lang/IndexOutOfBoundsException" :: Cond.initialized "java/lang/IndexOutOfBoundsException" :: vx_at0 RX6 221 "java/lang/IndexOutOfBoundsException" ["java/lang/RuntimeException", "java/lang/Exception"], vx_ot w = true := by decide +kernel
theorem kx0_UOE : ∀ w ∈ (vx_at0 RX6 150 "java/lang/UnsupportedOperationException" ["java/lang/RuntimeException", "java/lang/Exception"]).filter goodWord, w ∈ lw_tbl := by decide +kernel
theorem kx1_UOE : ∀ w ∈ (vx_at0 RX6 150 "java/lang/UnsupportedOperationException" ["java/lang/RuntimeException", "java/lang/Exception"]).filter goodWord, w ∈ kAL := fun w h => List.mem_filter.mpr ⟨kx0_UOE w h, (List.mem_filter.mp h).2⟩
theorem kx2_UOE : ∀ w ∈ (vx_at0 RX6 150 "java/lang/UnsupportedOperationException" ["java/lang/RuntimeException", "java/lang/Exception"]).filter (fun w => !goodWord w), w ∈ kBL := fun w h => List.mem_filter.mpr ((by decide +kernel : ∀ w ∈ (vx_at0 RX6 150 "java/lang/UnsupportedOperationException" ["java/lang/RuntimeException", "java/lang/Exception"]).filter (fun w => !goodWord w), w ∈ lw_tbl ∧ kSP w = true) w h)
theorem kx3_UOE : ∀ w ∈ Cond.classLink RX6 148 "java/lang/UnsupportedOperationException" :: Cond.initialized "java/lang/UnsupportedOperationException" :: vx_at0 RX6 150 "java/lang/UnsupportedOperationException" ["java/lang/RuntimeException", "java/lang/Exception"], vx_ot w = true := by decide +kernel
theorem kx0_ARE : ∀ w ∈ (vx_at0 RX6 208 "java/lang/ArithmeticException" ["java/lang/RuntimeException", "java/lang/Exception"]).filter goodWord, w ∈ lw_tbl := by decide +kernel
theorem kx1_ARE : ∀ w ∈ (vx_at0 RX6 208 "java/lang/ArithmeticException" ["java/lang/RuntimeException", "java/lang/Exception"]).filter goodWord, w ∈ kAL := fun w h => List.mem_filter.mpr ⟨kx0_ARE w h, (List.mem_filter.mp h).2⟩
theorem kx2_ARE : ∀ w ∈ (vx_at0 RX6 208 "java/lang/ArithmeticException" ["java/lang/RuntimeException", "java/lang/Exception"]).filter (fun w => !goodWord w), w ∈ kBL := fun w h => List.mem_filter.mpr ((by decide +kernel : ∀ w ∈ (vx_at0 RX6 208 "java/lang/ArithmeticException" ["java/lang/RuntimeException", "java/lang/Exception"]).filter (fun w => !goodWord w), w ∈ lw_tbl ∧ kSP w = true) w h)
theorem kx3_ARE : ∀ w ∈ Cond.classLink RX6 206 "java/lang/ArithmeticException" :: Cond.initialized "java/lang/ArithmeticException" :: vx_at0 RX6 208 "java/lang/ArithmeticException" ["java/lang/RuntimeException", "java/lang/Exception"], vx_ot w = true := by decide +kernel
theorem m_all_step {P : Nat → Prop} {i : Int} (h : ∀ p : Nat, (p : Int) < i → P p) (h0 : 0 ≤ i) (hi : P i.toNat) : ∀ p : Nat, (p : Int) < i + 1 → P p := fun p hp => by
  by_cases e : (p : Int) < i
  · exact h p e
  · have e2 : p = i.toNat := by omega
    rw [e2]; exact hi
theorem m_all_0 {P : Nat → Prop} : ∀ p : Nat, (p : Int) < 0 → P p := fun p hp => by omega
