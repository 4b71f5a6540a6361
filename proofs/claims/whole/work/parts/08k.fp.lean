/-! FLOATS: no NaN arises. Mine. -/
theorem m_nf {a b : Int} (ha : 0 ≤ a ∧ a ≤ 6) (hb : 1 ≤ b ∧ b ≤ 6) : vf_n32 (FP.fdiv (FP.i2f (iI a)) (FP.i2f (iI b))) := by
  obtain ⟨n, rfl⟩ : ∃ n : Nat, a = n := ⟨a.toNat, by omega⟩
  obtain ⟨m, rfl⟩ : ∃ m : Nat, b = m := ⟨b.toNat, by omega⟩
  have key : ∀ (n m : Fin 7), 1 ≤ m.val → (FP.fdiv (FP.i2f (iI (n.val : Int))) (FP.i2f (iI (m.val : Int)))) &&& 0x7fffffff ≤ 0x7f800000 := by decide +kernel
  exact key ⟨n, by omega⟩ ⟨m, by omega⟩ (by show 1 ≤ m; omega)
theorem m_nf2 {a b : Int} (ha : 0 ≤ a ∧ a ≤ 6) (hb : 1 ≤ b ∧ b ≤ 6) : vf_n64 (FP.f2d (FP.fdiv (FP.i2f (iI a)) (FP.i2f (iI b)))) := by
  obtain ⟨n, rfl⟩ : ∃ n : Nat, a = n := ⟨a.toNat, by omega⟩
  obtain ⟨m, rfl⟩ : ∃ m : Nat, b = m := ⟨b.toNat, by omega⟩
  have key : ∀ (n m : Fin 7), 1 ≤ m.val → FP.f2d (FP.fdiv (FP.i2f (iI (n.val : Int))) (FP.i2f (iI (m.val : Int)))) &&& 0x7fffffffffffffff ≤ 0x7ff0000000000000 := by decide +kernel
  exact key ⟨n, by omega⟩ ⟨m, by omega⟩ (by show 1 ≤ m; omega)
def m_ndP (j : Nat) : Prop := ∀ (q : Fin 2) (r : Fin 78) (m : Fin 7), 1 ≤ m.val → FP.ddiv (FP.i2d (iI ((78 * (2 * j + q.val) + r.val : Nat) : Int))) (FP.i2d (iI (m.val : Int))) &&& 0x7fffffffffffffff ≤ 0x7ff0000000000000
theorem m_ndk_0 : m_ndP 0 := by unfold m_ndP; decide +kernel
theorem m_ndk_1 : m_ndP 1 := by unfold m_ndP; decide +kernel
theorem m_ndk_2 : m_ndP 2 := by unfold m_ndP; decide +kernel
theorem m_ndk_3 : m_ndP 3 := by unfold m_ndP; decide +kernel
theorem m_ndk_4 : m_ndP 4 := by unfold m_ndP; decide +kernel
theorem m_ndk_5 : m_ndP 5 := by unfold m_ndP; decide +kernel
theorem m_ndk_6 : m_ndP 6 := by unfold m_ndP; decide +kernel
theorem m_ndk_7 : m_ndP 7 := by unfold m_ndP; decide +kernel
theorem m_ndk_8 : m_ndP 8 := by unfold m_ndP; decide +kernel
theorem m_ndk_9 : m_ndP 9 := by unfold m_ndP; decide +kernel
theorem m_ndk_10 : m_ndP 10 := by unfold m_ndP; decide +kernel
theorem m_ndk_11 : m_ndP 11 := by unfold m_ndP; decide +kernel
theorem m_ndk_12 : m_ndP 12 := by unfold m_ndP; decide +kernel
theorem m_ndk_13 : m_ndP 13 := by unfold m_ndP; decide +kernel
theorem m_ndk_14 : m_ndP 14 := by unfold m_ndP; decide +kernel
theorem m_ndk_15 : m_ndP 15 := by unfold m_ndP; decide +kernel
theorem m_ndk_16 : m_ndP 16 := by unfold m_ndP; decide +kernel
theorem m_ndk_17 : m_ndP 17 := by unfold m_ndP; decide +kernel
theorem m_ndk_18 : m_ndP 18 := by unfold m_ndP; decide +kernel
theorem m_ndk_19 : m_ndP 19 := by unfold m_ndP; decide +kernel
theorem m_ndk_20 : m_ndP 20 := by unfold m_ndP; decide +kernel
theorem m_ndk_21 : m_ndP 21 := by unfold m_ndP; decide +kernel
theorem m_ndk_22 : m_ndP 22 := by unfold m_ndP; decide +kernel
theorem m_ndk_23 : m_ndP 23 := by unfold m_ndP; decide +kernel
theorem m_ndk_24 : m_ndP 24 := by unfold m_ndP; decide +kernel
theorem m_ndk_25 : m_ndP 25 := by unfold m_ndP; decide +kernel
theorem m_ndk_26 : m_ndP 26 := by unfold m_ndP; decide +kernel
theorem m_ndk_27 : m_ndP 27 := by unfold m_ndP; decide +kernel
theorem m_ndk_28 : m_ndP 28 := by unfold m_ndP; decide +kernel
theorem m_ndk_29 : m_ndP 29 := by unfold m_ndP; decide +kernel
theorem m_ndk_30 : m_ndP 30 := by unfold m_ndP; decide +kernel
theorem m_ndk_31 : m_ndP 31 := by unfold m_ndP; decide +kernel
theorem m_ndk_32 : m_ndP 32 := by unfold m_ndP; decide +kernel
theorem m_ndk_33 : m_ndP 33 := by unfold m_ndP; decide +kernel
theorem m_ndk_34 : m_ndP 34 := by unfold m_ndP; decide +kernel
theorem m_ndk_35 : m_ndP 35 := by unfold m_ndP; decide +kernel
theorem m_ndk_36 : m_ndP 36 := by unfold m_ndP; decide +kernel
theorem m_ndk_37 : m_ndP 37 := by unfold m_ndP; decide +kernel
theorem m_ndk_38 : m_ndP 38 := by unfold m_ndP; decide +kernel
theorem m_ndk : ∀ j : Nat, j < 39 → m_ndP j
  | 0, _ => m_ndk_0
  | 1, _ => m_ndk_1
  | 2, _ => m_ndk_2
  | 3, _ => m_ndk_3
  | 4, _ => m_ndk_4
  | 5, _ => m_ndk_5
  | 6, _ => m_ndk_6
  | 7, _ => m_ndk_7
  | 8, _ => m_ndk_8
  | 9, _ => m_ndk_9
  | 10, _ => m_ndk_10
  | 11, _ => m_ndk_11
  | 12, _ => m_ndk_12
  | 13, _ => m_ndk_13
  | 14, _ => m_ndk_14
  | 15, _ => m_ndk_15
  | 16, _ => m_ndk_16
  | 17, _ => m_ndk_17
  | 18, _ => m_ndk_18
  | 19, _ => m_ndk_19
  | 20, _ => m_ndk_20
  | 21, _ => m_ndk_21
  | 22, _ => m_ndk_22
  | 23, _ => m_ndk_23
  | 24, _ => m_ndk_24
  | 25, _ => m_ndk_25
  | 26, _ => m_ndk_26
  | 27, _ => m_ndk_27
  | 28, _ => m_ndk_28
  | 29, _ => m_ndk_29
  | 30, _ => m_ndk_30
  | 31, _ => m_ndk_31
  | 32, _ => m_ndk_32
  | 33, _ => m_ndk_33
  | 34, _ => m_ndk_34
  | 35, _ => m_ndk_35
  | 36, _ => m_ndk_36
  | 37, _ => m_ndk_37
  | 38, _ => m_ndk_38
  | n + 39, h => by omega
theorem m_nd64 {a b : Int} (ha : 0 ≤ a ∧ a ≤ 6000) (hb : 1 ≤ b ∧ b ≤ 6) : vf_n64 (FP.ddiv (FP.i2d (iI a)) (FP.i2d (iI b))) := by
  obtain ⟨n, rfl⟩ : ∃ n : Nat, a = n := ⟨a.toNat, by omega⟩
  obtain ⟨m, rfl⟩ : ∃ m : Nat, b = m := ⟨b.toNat, by omega⟩
  have k := m_ndk (n / 78 / 2) (by omega) ⟨n / 78 % 2, by omega⟩ ⟨n % 78, by omega⟩ ⟨m, by omega⟩ (by show 1 ≤ m; omega)
  have e : 78 * (2 * (n / 78 / 2) + n / 78 % 2) + n % 78 = n := by omega
  have k2 : FP.ddiv (FP.i2d (iI ((78 * (2 * (n / 78 / 2) + n / 78 % 2) + n % 78 : Nat) : Int))) (FP.i2d (iI (m : Int))) &&& 0x7fffffffffffffff ≤ 0x7ff0000000000000 := k
  rw [e] at k2
  exact k2
