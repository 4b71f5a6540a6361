set_option maxHeartbeats 400000 in
set_option maxRecDepth 100000 in
theorem c_X7_in {E_o : kE} {l_o : Launch} (hl0 : l_o.stackTraces = false) {w_o : kW} {x_o y_o u_o : Int} (hx : -2147483648 ≤ x_o ∧ x_o < 2147483648) (hy : -2147483648 ≤ y_o ∧ y_o < 2147483648) (hu : -2147483648 ≤ u_o ∧ u_o < 2147483648) : kM E_o l_o yX7_in (.code yX7_in cX7_in 6 (some .boolean) :: kAL) { frames := 0, cells := 0, slots := 0, locals := 0 } 0 0 [.long (lI x_o), .long (lI y_o), .long (lI u_o)] w_o (pI (fun z_o w2_o => bI (y_o ≤ x_o ∧ x_o ≤ u_o) = z_o ∧ w_o = w2_o)) := by
  refine kM_of hl0 (by decide +kernel) (Nat.le_of_ble_eq_true rfl) ?_
  intro X_o hXl h_o hr hin
  subst hXl
  show kG E_o X_o 6 0 0 w_o 0 [(0, .long (lI x_o)), (2, .long (lI y_o)), (4, .long (lI u_o))] []
  refine k_lload_n h_o 0 dX7_in_0 rfl rfl ?_
  refine k_lload_n h_o 1 dX7_in_1 rfl rfl ?_
  refine k_lcmp3 h_o (by omega) (by omega) dX7_in_2 ?_
  refine k_iflt h_o 17 (cmp3_rg _ _) dX7_in_3 (by decide) (fun h3_o => ?_) (fun h3_o => ?_)
  · refine k_iconst h_o dX7_in_17 ?_
    exact k_iret h_o hr rfl (⟨_, rfl, (bI_f (by have q1 := m_cmp (a := x_o) (b := y_o); have q2 := m_cmp (a := x_o) (b := u_o); omega)), rfl⟩) (by omega) (by omega) dX7_in_18
  · refine k_lload_n h_o 0 dX7_in_6 rfl rfl ?_
    refine k_lload h_o 2 dX7_in_7 rfl ?_
    refine k_lcmp3 h_o (by omega) (by omega) dX7_in_9 ?_
    refine k_ifgt h_o 17 (cmp3_rg _ _) dX7_in_10 (by decide) (fun h10_o => ?_) (fun h10_o => ?_)
    · refine k_iconst h_o dX7_in_17 ?_
      exact k_iret h_o hr rfl (⟨_, rfl, (bI_f (by have q1 := m_cmp (a := x_o) (b := y_o); have q2 := m_cmp (a := x_o) (b := u_o); omega)), rfl⟩) (by omega) (by omega) dX7_in_18
    · refine k_iconst h_o dX7_in_13 ?_
      refine k_goto h_o 18 dX7_in_14 (by decide) ?_
      exact k_iret h_o hr rfl (⟨_, rfl, (bI_t (by have q1 := m_cmp (a := x_o) (b := y_o); have q2 := m_cmp (a := x_o) (b := u_o); omega)), rfl⟩) (by omega) (by omega) dX7_in_18

set_option maxHeartbeats 400000 in
set_option maxRecDepth 100000 in
theorem c_X7_isName {E_o : kE} {l_o : Launch} (hl0 : l_o.stackTraces = false) {w_o : kW} {x_o : Int} (hx : -2147483648 ≤ x_o ∧ x_o < 2147483648) : kM E_o l_o yX7_isName (.code yX7_isName cX7_isName 1 (some .boolean) :: kAL) { frames := 1, cells := 0, slots := 0, locals := 25 } 0 0 [.int (iI x_o)] w_o (pI (fun z_o w2_o => bI (m_isN x_o) = z_o ∧ w_o = w2_o)) := by
  refine kM_of hl0 (by decide +kernel) (Nat.le_of_ble_eq_true rfl) ?_
  intro X_o hXl h_o hr hin
  subst hXl
  show kG E_o X_o 1 0 0 w_o 0 [(0, .int (iI x_o))] []
  refine k_iload_n h_o 0 dX7_isName_0 rfl rfl ?_
  refine k_i2l h_o (by omega) dX7_isName_1 ?_
  refine k_ldc2l (z := 10) h_o kq_4_214 dX7_isName_2 (by decide) ?_
  refine k_ldc2l (z := 14) h_o kq_4_215 dX7_isName_5 (by decide) ?_
  refine k_callS (As := [.long (lI x_o), .long (lI 10), .long (lI 14)]) (rest := []) h_o mX7_in kq_4_216 (c_X7_in hl0 (by omega) (by decide) (by decide)) rfl rfl (Nat.le_of_ble_eq_true rfl) ⟨rfl, rfl, ⟨(Nat.le_of_ble_eq_true rfl), (Nat.le_of_ble_eq_true rfl)⟩, ⟨(Nat.le_of_ble_eq_true rfl), (Nat.le_of_ble_eq_true rfl)⟩⟩ dX7_isName_8 (kcI fun z8_o w8_o hp => ?_)
  obtain ⟨rfl, rfl⟩ := hp
  exact k_iret h_o hr bI_nar (⟨_, rfl, bI_iff (by omega), rfl⟩) (by omega) (by omega) dX7_isName_11

set_option maxHeartbeats 400000 in
set_option maxRecDepth 100000 in
theorem c_X7_isLetter {E_o : kE} {l_o : Launch} (hl0 : l_o.stackTraces = false) {w_o : kW} {x_o : Int} (hx : -2147483648 ≤ x_o ∧ x_o < 2147483648) : kM E_o l_o yX7_isLetter (.code yX7_isLetter cX7_isLetter 1 (some .boolean) :: kAL) { frames := 1, cells := 0, slots := 0, locals := 25 } 0 0 [.int (iI x_o)] w_o (pI (fun z_o w2_o => bI (m_isL x_o) = z_o ∧ w_o = w2_o)) := by
  refine kM_of hl0 (by decide +kernel) (Nat.le_of_ble_eq_true rfl) ?_
  intro X_o hXl h_o hr hin
  subst hXl
  show kG E_o X_o 1 0 0 w_o 0 [(0, .int (iI x_o))] []
  refine k_iload_n h_o 0 dX7_isLetter_0 rfl rfl ?_
  refine k_i2l h_o (by omega) dX7_isLetter_1 ?_
  refine k_lconst (z := 0) h_o dX7_isLetter_2 (by decide) ?_
  refine k_ldc2l (z := 7) h_o kq_4_225 dX7_isLetter_3 (by decide) ?_
  refine k_callS (As := [.long (lI x_o), .long (lI 0), .long (lI 7)]) (rest := []) h_o mX7_in kq_4_216 (c_X7_in hl0 (by omega) (by decide) (by decide)) rfl rfl (Nat.le_of_ble_eq_true rfl) ⟨rfl, rfl, ⟨(Nat.le_of_ble_eq_true rfl), (Nat.le_of_ble_eq_true rfl)⟩, ⟨(Nat.le_of_ble_eq_true rfl), (Nat.le_of_ble_eq_true rfl)⟩⟩ dX7_isLetter_6 (kcI fun z6_o w6_o hp => ?_)
  obtain ⟨rfl, rfl⟩ := hp
  exact k_iret h_o hr bI_nar (⟨_, rfl, bI_iff (by omega), rfl⟩) (by omega) (by omega) dX7_isLetter_9

set_option maxHeartbeats 400000 in
set_option maxRecDepth 100000 in
theorem c_X7_isSymbol {E_o : kE} {l_o : Launch} (hl0 : l_o.stackTraces = false) {w_o : kW} {x_o : Int} (hx : -2147483648 ≤ x_o ∧ x_o < 2147483648) : kM E_o l_o yX7_isSymbol (.code yX7_isSymbol cX7_isSymbol 1 (some .boolean) :: kAL) { frames := 2, cells := 0, slots := 0, locals := 45 } 0 0 [.int (iI x_o)] w_o (pI (fun z_o w2_o => bI (m_isS x_o) = z_o ∧ w_o = w2_o)) := by
  refine kM_of hl0 (by decide +kernel) (Nat.le_of_ble_eq_true rfl) ?_
  intro X_o hXl h_o hr hin
  subst hXl
  show kG E_o X_o 1 0 0 w_o 0 [(0, .int (iI x_o))] []
  refine k_iload_n h_o 0 dX7_isSymbol_0 rfl rfl ?_
  refine k_callS (As := [.int (iI x_o)]) (rest := []) h_o mX7_isName kq_4_211 (c_X7_isName hl0 (by omega)) rfl rfl (Nat.le_of_ble_eq_true rfl) ⟨rfl, rfl, ⟨(Nat.le_of_ble_eq_true rfl), (Nat.le_of_ble_eq_true rfl)⟩, ⟨(Nat.le_of_ble_eq_true rfl), (Nat.le_of_ble_eq_true rfl)⟩⟩ dX7_isSymbol_1 (kcI fun z1_o w1_o hp => ?_)
  obtain ⟨rfl, rfl⟩ := hp
  refine k_ifBne h_o 14 dX7_isSymbol_4 (by decide) (fun h4_o => ?_) (fun h4_o => ?_)
  · refine k_iconst h_o dX7_isSymbol_14 ?_
    refine k_goto h_o 19 dX7_isSymbol_15 (by decide) ?_
    exact k_iret h_o hr rfl (⟨_, rfl, (bI_t (by omega)), rfl⟩) (by omega) (by omega) dX7_isSymbol_19
  · refine k_iload_n h_o 0 dX7_isSymbol_7 rfl rfl ?_
    refine k_callS (As := [.int (iI x_o)]) (rest := []) h_o mX7_isLetter kq_4_222 (c_X7_isLetter hl0 (by omega)) rfl rfl (Nat.le_of_ble_eq_true rfl) ⟨rfl, rfl, ⟨(Nat.le_of_ble_eq_true rfl), (Nat.le_of_ble_eq_true rfl)⟩, ⟨(Nat.le_of_ble_eq_true rfl), (Nat.le_of_ble_eq_true rfl)⟩⟩ dX7_isSymbol_8 (kcI fun z8_o w8_o hp => ?_)
    obtain ⟨rfl, rfl⟩ := hp
    refine k_ifBeq h_o 18 dX7_isSymbol_11 (by decide) (fun h11_o => ?_) (fun h11_o => ?_)
    · refine k_iconst h_o dX7_isSymbol_18 ?_
      exact k_iret h_o hr rfl (⟨_, rfl, (bI_f (by omega)), rfl⟩) (by omega) (by omega) dX7_isSymbol_19
    · refine k_iconst h_o dX7_isSymbol_14 ?_
      refine k_goto h_o 19 dX7_isSymbol_15 (by decide) ?_
      exact k_iret h_o hr rfl (⟨_, rfl, (bI_t (by omega)), rfl⟩) (by omega) (by omega) dX7_isSymbol_19

set_option maxHeartbeats 400000 in
set_option maxRecDepth 100000 in
theorem c_X7_held {E_o : kE} {l_o : Launch} (hl0 : l_o.stackTraces = false) {w_o : kW} {x_o : Int} (hx : -2147483648 ≤ x_o ∧ x_o < 2147483648) : kM E_o l_o yX7_held (.code yX7_held cX7_held 1 (some .int) :: kAL) { frames := 0, cells := 0, slots := 0, locals := 0 } 0 0 [.int (iI x_o)] w_o (pI (fun z_o w2_o => m_lim x_o = z_o ∧ w_o = w2_o)) := by
  refine kM_of hl0 (by decide +kernel) (Nat.le_of_ble_eq_true rfl) ?_
  intro X_o hXl h_o hr hin
  subst hXl
  show kG E_o X_o 1 0 0 w_o 0 [(0, .int (iI x_o))] []
  refine k_iload_n h_o 0 dX7_held_0 rfl rfl ?_
  refine k_sipush h_o dX7_held_1 (by decide) ?_
  refine k_icmp_le h_o 13 (by omega) (by decide) dX7_held_4 (by decide) (fun h4_o => ?_) (fun h4_o => ?_)
  · refine k_iload_n h_o 0 dX7_held_13 rfl rfl ?_
    exact k_iret h_o hr rfl (⟨_, rfl, (by unfold m_lim; rw [if_neg (by omega)]), rfl⟩) (by omega) (by omega) dX7_held_14
  · refine k_sipush h_o dX7_held_7 (by decide) ?_
    refine k_goto h_o 14 dX7_held_10 (by decide) ?_
    exact k_iret h_o hr rfl (⟨_, rfl, (by unfold m_lim; rw [if_pos (by omega)]), rfl⟩) (by omega) (by omega) dX7_held_14

set_option maxHeartbeats 400000 in
set_option maxRecDepth 100000 in
theorem c_X7_part {E_o : kE} {l_o : Launch} (hl0 : l_o.stackTraces = false) {w_o : kW} {bd : Nat → Nat} {nr : Nat} {g_o : Nat → Nat → Int} {T_o : Nat} {cs ams ltA acA mnA : Nat → Int} {rel fnd sz : Int} {rx : Nat → Int} {N_o : Nat → Nat} {tm : Int} {tr sh sg : Nat → Int} {sm dp th : Int} {s_o i_o j_o : Int} (hmd : kMd w_o bd nr g_o T_o cs ams ltA acA mnA rel fnd sz rx N_o tm tr sh sg sm dp th) (hrx : kLt rx) (hs : m_isS s_o) (hi_o : 0 ≤ i_o ∧ i_o ≤ j_o) (hj : j_o < 10) : kM E_o l_o yX7_part (.code yX7_part cX7_part 4 (some .int) :: kAL) { frames := 2, cells := 0, slots := 0, locals := 45 } 0 0 [.ref (bd 25), .int (iI s_o), .int (iI i_o), .int (iI j_o)] w_o (pI (fun z_o w2_o => ((m_part (m_Cn N_o) rx s_o i_o j_o : Nat) : Int) = z_o ∧ w_o = w2_o)) := by
  refine kM_of hl0 (by decide +kernel) (Nat.le_of_ble_eq_true rfl) ?_
  intro X_o hXl h_o hr hin
  subst hXl
  show kG E_o X_o 4 0 0 w_o 0 [(0, .ref (bd 25)), (1, .int (iI s_o)), (2, .int (iI i_o)), (3, .int (iI j_o))] []
  refine k_iload_n h_o 1 dX7_part_0 rfl rfl ?_
  refine k_callS (As := [.int (iI s_o)]) (rest := []) h_o mX7_isLetter kq_4_222 (c_X7_isLetter hl0 (by omega)) rfl rfl (Nat.le_of_ble_eq_true rfl) ⟨rfl, rfl, ⟨(Nat.le_of_ble_eq_true rfl), (Nat.le_of_ble_eq_true rfl)⟩, ⟨(Nat.le_of_ble_eq_true rfl), (Nat.le_of_ble_eq_true rfl)⟩⟩ dX7_part_1 (kcI fun z1_o w1_o hp => ?_)
  obtain ⟨rfl, rfl⟩ := hp
  refine k_ifBeq h_o 28 dX7_part_4 (by decide) (fun h4_o => ?_) (fun h4_o => ?_)
  · refine k_aload_n h_o 0 dX7_part_28 rfl rfl ?_
    refine k_get h_o 19 kf_X7_47 hmd.1 rfl dX7_part_29 ?_
    refine k_bipush h_o dX7_part_32 (by decide) ?_
    refine k_iload_n h_o 1 dX7_part_34 rfl rfl ?_
    refine k_bipush h_o dX7_part_35 (by decide) ?_
    refine k_isub h_o dX7_part_37 ?_
    refine k_imul h_o dX7_part_38 ?_
    refine k_bipush h_o dX7_part_39 (by decide) ?_
    refine k_iload_n h_o 2 dX7_part_41 rfl rfl ?_
    refine k_imul h_o dX7_part_42 ?_
    refine k_iadd h_o dX7_part_43 ?_
    refine k_iload_n h_o 3 dX7_part_44 rfl rfl ?_
    refine k_iadd h_o dX7_part_45 ?_
    refine k_iald h_o 37 hmd.2.2.2.2.2.2.2.2.2.2.2.2.2.1 (by omega) (by decide) dX7_part_46 ?_
    exact k_iret h_o hr rfl (⟨_, rfl, (by unfold m_part m_Cn; rw [if_neg h4_o, show ((s_o - 10) * 10 + i_o) * 10 + j_o = 100 * (s_o - 10) + 10 * i_o + j_o by omega]), rfl⟩) (by omega) (by omega) dX7_part_47
  · refine k_iload_n h_o 2 dX7_part_7 rfl rfl ?_
    refine k_iload_n h_o 3 dX7_part_8 rfl rfl ?_
    refine k_icmp_ne h_o 26 (by omega) (by omega) dX7_part_9 (by decide) (fun h9_o => ?_) (fun h9_o => ?_)
    · refine k_iconst h_o dX7_part_26 ?_
      exact k_iret h_o hr rfl (⟨_, rfl, (by unfold m_part; rw [if_pos h4_o]; rw [if_neg (by omega)]; rfl), rfl⟩) (by omega) (by omega) dX7_part_27
    · refine k_aload_n h_o 0 dX7_part_12 rfl rfl ?_
      refine k_get h_o 19 kf_X7_44 hmd.1 rfl dX7_part_13 ?_
      refine k_iload_n h_o 2 dX7_part_16 rfl rfl ?_
      refine k_iald h_o 35 hmd.2.2.2.2.2.2.2.2.2.2.2.2.1 (by omega) (by decide) dX7_part_17 ?_
      refine k_iload_n h_o 1 dX7_part_18 rfl rfl ?_
      refine k_icmp_ne h_o 26 (by have := hrx ((i_o).toNat); omega) (by omega) dX7_part_19 (by decide) (fun h19_o => ?_) (fun h19_o => ?_)
      · refine k_iconst h_o dX7_part_26 ?_
        exact k_iret h_o hr rfl (⟨_, rfl, (by unfold m_part; rw [if_pos h4_o]; rw [if_neg (by omega)]; rfl), rfl⟩) (by omega) (by omega) dX7_part_27
      · refine k_iconst h_o dX7_part_22 ?_
        refine k_goto h_o 27 dX7_part_23 (by decide) ?_
        exact k_iret h_o hr rfl (⟨_, rfl, (by unfold m_part; rw [if_pos h4_o]; rw [if_pos (by omega)]; rfl), rfl⟩) (by omega) (by omega) dX7_part_27

set_option maxHeartbeats 400000 in
set_option maxRecDepth 100000 in
theorem c_X7_twoParts {E_o : kE} {l_o : Launch} (hl0 : l_o.stackTraces = false) {w_o : kW} {bd : Nat → Nat} {nr : Nat} {g_o : Nat → Nat → Int} {T_o : Nat} {cs ams ltA acA mnA : Nat → Int} {rel fnd sz : Int} {rx : Nat → Int} {N_o : Nat → Nat} {tm : Int} {tr sh sg : Nat → Int} {sm dp th : Int} {x_o y_o i_o j_o : Int} (hmd : kMd w_o bd nr g_o T_o cs ams ltA acA mnA rel fnd sz rx N_o tm tr sh sg sm dp th) (hrx : kLt rx) (hN_o : ∀ x_o, N_o x_o ≤ 1000) (hx : m_isS x_o) (hy : m_isS y_o) (hi_o : 0 ≤ i_o ∧ i_o ≤ j_o) (hj : j_o < 10) : kM E_o l_o yX7_twoParts (.code yX7_twoParts cX7_twoParts 7 (some .int) :: kAL) { frames := 3, cells := 0, slots := 0, locals := 68 } 0 0 [.ref (bd 25), .int (iI x_o), .int (iI y_o), .int (iI i_o), .int (iI j_o)] w_o (pI (fun z_o w2_o => ((m_cap (m_two (m_Cn N_o) rx x_o y_o i_o j_o) : Nat) : Int) = z_o ∧ w_o = w2_o)) := by
  refine kM_of hl0 (by decide +kernel) (Nat.le_of_ble_eq_true rfl) ?_
  intro X_o hXl h_o hr hin
  subst hXl
  show kG E_o X_o 7 0 0 w_o 0 [(0, .ref (bd 25)), (1, .int (iI x_o)), (2, .int (iI y_o)), (3, .int (iI i_o)), (4, .int (iI j_o))] []
  refine k_iconst h_o dX7_twoParts_0 ?_
  refine k_istore (lv' := [(5, .int (iI 0)), (0, .ref (bd 25)), (1, .int (iI x_o)), (2, .int (iI y_o)), (3, .int (iI i_o)), (4, .int (iI j_o))]) h_o dX7_twoParts_1 (by decide) rfl ?_
  refine k_iload_n h_o 4 dX7_twoParts_3 rfl rfl ?_
  refine k_istore (lv' := [(6, .int (iI i_o)), (5, .int (iI 0)), (0, .ref (bd 25)), (1, .int (iI x_o)), (2, .int (iI y_o)), (3, .int (iI i_o)), (4, .int (iI j_o))]) h_o dX7_twoParts_4 (by decide) rfl ?_
  have L6 : ∀ (mm : Nat) (k_o : Int) (s_o : Nat), (i_o ≤ k_o ∧ k_o ≤ j_o) → (s_o ≤ 1000) → (s_o = m_cap (m_S (fun k_o => m_part (m_Cn N_o) rx x_o i_o k_o * m_part (m_Cn N_o) rx y_o (k_o + 1) j_o) i_o k_o)) → (j_o - k_o < (mm : Int)) → kG E_o X_o 7 0 0 w_o 6 [(0, .ref (bd 25)), (1, .int (iI x_o)), (2, .int (iI y_o)), (3, .int (iI i_o)), (4, .int (iI j_o)), (5, .int (iI ((s_o : Nat) : Int))), (6, .int (iI k_o))] [] := by
    intro mm
    induction mm with
    | zero =>
      intro k_o s_o hk hs1 hs2 hm_o
      exfalso; omega
    | succ mm ih6 =>
      intro k_o s_o hk hs1 hs2 hm_o
      refine k_iload h_o 6 dX7_twoParts_6 rfl ?_
      refine k_iload h_o 4 dX7_twoParts_8 rfl ?_
      refine k_icmp_ge h_o 50 (by omega) (by omega) dX7_twoParts_10 (by decide) (fun h10_o => ?_) (fun h10_o => ?_)
      · refine k_iload h_o 5 dX7_twoParts_50 rfl ?_
        exact k_iret h_o hr rfl (⟨_, rfl, (by rw [hs2, show k_o = j_o by omega]; rfl), rfl⟩) (by omega) (by omega) dX7_twoParts_52
      · refine k_iload h_o 5 dX7_twoParts_13 rfl ?_
        refine k_aload_n h_o 0 dX7_twoParts_15 rfl rfl ?_
        refine k_iload_n h_o 1 dX7_twoParts_16 rfl rfl ?_
        refine k_iload_n h_o 3 dX7_twoParts_17 rfl rfl ?_
        refine k_iload h_o 6 dX7_twoParts_18 rfl ?_
        refine k_callV (As := [.int (iI x_o), .int (iI i_o), .int (iI k_o)]) (rest := [.int (iI ((s_o : Nat) : Int))]) h_o mX7_part kq_5_36 (c_X7_part hl0 hmd hrx (by omega) (by omega) (by omega)) 19 hmd.1 rfl rfl rfl (Nat.le_of_ble_eq_true rfl) ⟨rfl, rfl, ⟨(Nat.le_of_ble_eq_true rfl), (Nat.le_of_ble_eq_true rfl)⟩, ⟨(Nat.le_of_ble_eq_true rfl), (Nat.le_of_ble_eq_true rfl)⟩⟩ dX7_twoParts_20 (kcI fun z20_o w20_o hp => ?_)
        obtain ⟨rfl, rfl⟩ := hp
        refine k_aload_n h_o 0 dX7_twoParts_23 rfl rfl ?_
        refine k_iload_n h_o 2 dX7_twoParts_24 rfl rfl ?_
        refine k_iload h_o 6 dX7_twoParts_25 rfl ?_
        refine k_iconst h_o dX7_twoParts_27 ?_
        refine k_iadd h_o dX7_twoParts_28 ?_
        refine k_iload h_o 4 dX7_twoParts_29 rfl ?_
        refine k_callV (As := [.int (iI y_o), .int (iI (k_o + 1)), .int (iI j_o)]) (rest := [.int (iI ((m_part (m_Cn N_o) rx x_o i_o k_o : Nat) : Int)), .int (iI ((s_o : Nat) : Int))]) h_o mX7_part kq_5_36 (c_X7_part hl0 hmd hrx (by omega) (by omega) (by omega)) 19 hmd.1 rfl rfl rfl (Nat.le_of_ble_eq_true rfl) ⟨rfl, rfl, ⟨(Nat.le_of_ble_eq_true rfl), (Nat.le_of_ble_eq_true rfl)⟩, ⟨(Nat.le_of_ble_eq_true rfl), (Nat.le_of_ble_eq_true rfl)⟩⟩ dX7_twoParts_31 (kcI fun z31_o w31_o hp => ?_)
        obtain ⟨rfl, rfl⟩ := hp
        refine k_imul h_o dX7_twoParts_34 ?_
        refine k_callS (As := [.int (iI (((m_part (m_Cn N_o) rx x_o i_o k_o : Nat) : Int) * ((m_part (m_Cn N_o) rx y_o (k_o + 1) j_o : Nat) : Int)))]) (rest := [.int (iI ((s_o : Nat) : Int))]) h_o mX7_held kq_5_44 (c_X7_held hl0 (m_mul_rg (m_pC_le hN_o) (m_pC_le hN_o))) rfl rfl (Nat.le_of_ble_eq_true rfl) ⟨rfl, rfl, ⟨(Nat.le_of_ble_eq_true rfl), (Nat.le_of_ble_eq_true rfl)⟩, ⟨(Nat.le_of_ble_eq_true rfl), (Nat.le_of_ble_eq_true rfl)⟩⟩ dX7_twoParts_35 (kcI fun z35_o w35_o hp => ?_)
        obtain ⟨rfl, rfl⟩ := hp
        refine k_top (z' := ((m_cap ((fun k_o => m_part (m_Cn N_o) rx x_o i_o k_o * m_part (m_Cn N_o) rx y_o (k_o + 1) j_o) k_o) : Nat) : Int)) (by rw [← Int.natCast_mul, m_lim_cap]) ?_
        refine k_iadd h_o dX7_twoParts_38 ?_
        refine k_callS (As := [.int (iI (((s_o : Nat) : Int) + ((m_cap ((fun k_o => m_part (m_Cn N_o) rx x_o i_o k_o * m_part (m_Cn N_o) rx y_o (k_o + 1) j_o) k_o) : Nat) : Int)))]) (rest := []) h_o mX7_held kq_5_44 (c_X7_held hl0 (m_add_rg hs1 (m_cap_le _))) rfl rfl (Nat.le_of_ble_eq_true rfl) ⟨rfl, rfl, ⟨(Nat.le_of_ble_eq_true rfl), (Nat.le_of_ble_eq_true rfl)⟩, ⟨(Nat.le_of_ble_eq_true rfl), (Nat.le_of_ble_eq_true rfl)⟩⟩ dX7_twoParts_39 (kcI fun z39_o w39_o hp => ?_)
        obtain ⟨rfl, rfl⟩ := hp
        refine k_top (z' := ((m_cap (s_o + (fun k_o => m_part (m_Cn N_o) rx x_o i_o k_o * m_part (m_Cn N_o) rx y_o (k_o + 1) j_o) k_o) : Nat) : Int)) (by rw [← Int.natCast_add, m_lim_cap, m_cap_addr]) ?_
        refine k_istore (lv' := [(5, .int (iI ((m_cap (s_o + (fun k_o => m_part (m_Cn N_o) rx x_o i_o k_o * m_part (m_Cn N_o) rx y_o (k_o + 1) j_o) k_o) : Nat) : Int))), (0, .ref (bd 25)), (1, .int (iI x_o)), (2, .int (iI y_o)), (3, .int (iI i_o)), (4, .int (iI j_o)), (6, .int (iI k_o))]) h_o dX7_twoParts_42 (by decide) rfl ?_
        refine k_iinc (lv' := [(6, .int (iI (k_o + 1))), (5, .int (iI ((m_cap (s_o + (fun k_o => m_part (m_Cn N_o) rx x_o i_o k_o * m_part (m_Cn N_o) rx y_o (k_o + 1) j_o) k_o) : Nat) : Int))), (0, .ref (bd 25)), (1, .int (iI x_o)), (2, .int (iI y_o)), (3, .int (iI i_o)), (4, .int (iI j_o))]) h_o 6 dX7_twoParts_44 rfl (by decide) rfl ?_
        refine k_goto h_o 6 dX7_twoParts_47 (by decide) ?_
        refine k_sub (lv' := [(0, .ref (bd 25)), (1, .int (iI x_o)), (2, .int (iI y_o)), (3, .int (iI i_o)), (4, .int (iI j_o)), (5, .int (iI ((m_cap (s_o + (fun k_o => m_part (m_Cn N_o) rx x_o i_o k_o * m_part (m_Cn N_o) rx y_o (k_o + 1) j_o) k_o) : Nat) : Int))), (6, .int (iI (k_o + 1)))]) [2, 3, 4, 5, 6, 1, 0] rfl ?_
        exact ih6 (k_o + 1) (m_cap (s_o + (fun k_o => m_part (m_Cn N_o) rx x_o i_o k_o * m_part (m_Cn N_o) rx y_o (k_o + 1) j_o) k_o)) (by omega) (m_cap_le _) (m_sum_step (f := (fun k_o => m_part (m_Cn N_o) rx x_o i_o k_o * m_part (m_Cn N_o) rx y_o (k_o + 1) j_o)) hk.1 hs2) (by omega)
  refine k_sub (lv' := [(0, .ref (bd 25)), (1, .int (iI x_o)), (2, .int (iI y_o)), (3, .int (iI i_o)), (4, .int (iI j_o)), (5, .int (iI 0)), (6, .int (iI i_o))]) [2, 3, 4, 5, 6, 1, 0] rfl ?_
  exact L6 ((j_o - i_o : Int).toNat + 1) i_o 0 (by omega) (by omega) (by rw [m_S_self (by omega)]; rfl) (by omega)

set_option maxHeartbeats 400000 in
set_option maxRecDepth 100000 in
theorem c_X7_ways {E_o : kE} {l_o : Launch} (hl0 : l_o.stackTraces = false) {w_o : kW} {bd : Nat → Nat} {nr : Nat} {g_o : Nat → Nat → Int} {T_o : Nat} {cs ams ltA acA mnA : Nat → Int} {rel fnd sz : Int} {rx : Nat → Int} {N_o : Nat → Nat} {tm : Int} {tr sh sg : Nat → Int} {sm dp th : Int} {r_o i_o j_o : Int} (hmd : kMd w_o bd nr g_o T_o cs ams ltA acA mnA rel fnd sz rx N_o tm tr sh sg sm dp th) (hrx : kLt rx) (hN_o : ∀ x_o, N_o x_o ≤ 1000) (hr0 : 0 ≤ r_o ∧ r_o < 12) (hwr : m_wf g_o r_o.toNat) (hmr : mnA r_o.toNat = m_np g_o r_o.toNat) (hi_o : 0 ≤ i_o ∧ i_o ≤ j_o) (hj : j_o < 10) : kM E_o l_o yX7_ways (.code yX7_ways cX7_ways 7 (some .int) :: kAL) { frames := 4, cells := 0, slots := 0, locals := 94 } 0 0 [.ref (bd 25), .int (iI r_o), .int (iI i_o), .int (iI j_o)] w_o (pI (fun z_o w2_o => ((m_cap (m_wy (m_Cn N_o) rx (g_o 2 r_o.toNat) (g_o 3 r_o.toNat) (g_o 4 r_o.toNat) i_o j_o) : Nat) : Int) = z_o ∧ w_o = w2_o)) := by
  refine kM_of hl0 (by decide +kernel) (Nat.le_of_ble_eq_true rfl) ?_
  intro X_o hXl h_o hr hin
  subst hXl
  have hnp := m_mn hmr hwr
  obtain ⟨hw1, hw2, hw3⟩ := id hwr
  show kG E_o X_o 7 0 0 w_o 0 [(0, .ref (bd 25)), (1, .int (iI r_o)), (2, .int (iI i_o)), (3, .int (iI j_o))] []
  refine k_iconst h_o dX7_ways_0 ?_
  refine k_iload_n h_o 1 dX7_ways_1 rfl rfl ?_
  refine k_imul h_o dX7_ways_2 ?_
  refine k_istore (lv' := [(4, .int (iI (3 * r_o))), (0, .ref (bd 25)), (1, .int (iI r_o)), (2, .int (iI i_o)), (3, .int (iI j_o))]) h_o dX7_ways_3 (by decide) rfl ?_
  refine k_aload_n h_o 1 dX7_ways_5 rfl rfl ?_
  refine k_get h_o 19 kf_X7_16 hmd.1 rfl dX7_ways_6 ?_
  refine k_iload_n h_o 2 dX7_ways_9 rfl rfl ?_
  refine k_iald h_o 22 hmd.2.2.2.1 (by omega) (by decide) dX7_ways_10 ?_
  refine k_iconst h_o dX7_ways_11 ?_
  refine k_icmp_ne h_o 29 (by omega) (by decide) dX7_ways_12 (by decide) (fun h12_o => ?_) (fun h12_o => ?_)
  · refine k_aload_n h_o 1 dX7_ways_29 rfl rfl ?_
    refine k_get h_o 19 kf_X7_16 hmd.1 rfl dX7_ways_30 ?_
    refine k_iload_n h_o 2 dX7_ways_33 rfl rfl ?_
    refine k_iald h_o 22 hmd.2.2.2.1 (by omega) (by decide) dX7_ways_34 ?_
    refine k_iconst h_o dX7_ways_35 ?_
    refine k_icmp_ne h_o 62 (by omega) (by decide) dX7_ways_36 (by decide) (fun h36_o => ?_) (fun h36_o => ?_)
    · refine k_iconst h_o dX7_ways_62 ?_
      refine k_istore (lv' := [(5, .int (iI 0)), (4, .int (iI (3 * r_o))), (0, .ref (bd 25)), (1, .int (iI r_o)), (2, .int (iI i_o)), (3, .int (iI j_o))]) h_o dX7_ways_63 (by decide) rfl ?_
      refine k_iload_n h_o 4 dX7_ways_65 rfl rfl ?_
      refine k_istore (lv' := [(6, .int (iI i_o)), (5, .int (iI 0)), (4, .int (iI (3 * r_o))), (0, .ref (bd 25)), (1, .int (iI r_o)), (2, .int (iI i_o)), (3, .int (iI j_o))]) h_o dX7_ways_66 (by decide) rfl ?_
      have L68 : ∀ (mm : Nat) (k_o : Int) (s_o : Nat), (i_o ≤ k_o ∧ (k_o ≤ j_o - 1 ∨ k_o = i_o)) → (s_o ≤ 1000) → (s_o = m_cap (m_S (fun k_o => m_part (m_Cn N_o) rx (g_o 2 r_o.toNat) i_o k_o * m_two (m_Cn N_o) rx (g_o 3 r_o.toNat) (g_o 4 r_o.toNat) (k_o + 1) j_o) i_o k_o)) → (j_o - k_o < (mm : Int)) → kG E_o X_o 7 0 0 w_o 68 [(0, .ref (bd 25)), (1, .int (iI r_o)), (2, .int (iI i_o)), (3, .int (iI j_o)), (4, .int (iI (3 * r_o))), (5, .int (iI ((s_o : Nat) : Int))), (6, .int (iI k_o))] [] := by
        intro mm
        induction mm with
        | zero =>
          intro k_o s_o hk hs1 hs2 hm_o
          exfalso; omega
        | succ mm ih68 =>
          intro k_o s_o hk hs1 hs2 hm_o
          refine k_iload h_o 6 dX7_ways_68 rfl ?_
          refine k_iload_n h_o 3 dX7_ways_70 rfl rfl ?_
          refine k_iconst h_o dX7_ways_71 ?_
          refine k_isub h_o dX7_ways_72 ?_
          refine k_icmp_ge h_o 135 (by omega) (by omega) dX7_ways_73 (by decide) (fun h73_o => ?_) (fun h73_o => ?_)
          · refine k_iload h_o 5 dX7_ways_135 rfl ?_
            exact k_iret h_o hr rfl (⟨_, rfl, (by unfold m_wy; rw [if_neg (by omega), if_neg (by omega), hs2]; by_cases q_o : k_o = j_o - 1; rw [q_o]; rw [m_S_self (by omega), m_S_self (by omega)]), rfl⟩) (by omega) (by omega) dX7_ways_137
          · refine k_iload h_o 5 dX7_ways_76 rfl ?_
            refine k_aload_n h_o 0 dX7_ways_78 rfl rfl ?_
            refine k_aload_n h_o 0 dX7_ways_79 rfl rfl ?_
            refine k_get h_o 19 kf_X7_13 hmd.1 rfl dX7_ways_80 ?_
            refine k_iload h_o 4 dX7_ways_83 rfl ?_
            refine k_iald h_o 21 hmd.2.2.1 (by omega) (by decide) dX7_ways_85 ?_
            refine k_top (z' := g_o 2 r_o.toNat) (m_rt_0 (by omega)) ?_
            refine k_iload_n h_o 2 dX7_ways_86 rfl rfl ?_
            refine k_iload h_o 6 dX7_ways_87 rfl ?_
            refine k_callV (As := [.int (iI (g_o 2 r_o.toNat)), .int (iI i_o), .int (iI k_o)]) (rest := [.int (iI ((s_o : Nat) : Int))]) h_o mX7_part kq_5_36 (c_X7_part hl0 hmd hrx (by omega) (by omega) (by omega)) 19 hmd.1 rfl rfl rfl (Nat.le_of_ble_eq_true rfl) ⟨rfl, rfl, ⟨(Nat.le_of_ble_eq_true rfl), (Nat.le_of_ble_eq_true rfl)⟩, ⟨(Nat.le_of_ble_eq_true rfl), (Nat.le_of_ble_eq_true rfl)⟩⟩ dX7_ways_89 (kcI fun z89_o w89_o hp => ?_)
            obtain ⟨rfl, rfl⟩ := hp
            refine k_aload_n h_o 0 dX7_ways_92 rfl rfl ?_
            refine k_aload_n h_o 0 dX7_ways_93 rfl rfl ?_
            refine k_get h_o 19 kf_X7_13 hmd.1 rfl dX7_ways_94 ?_
            refine k_iload h_o 4 dX7_ways_97 rfl ?_
            refine k_iconst h_o dX7_ways_99 ?_
            refine k_iadd h_o dX7_ways_100 ?_
            refine k_iald h_o 21 hmd.2.2.1 (by omega) (by decide) dX7_ways_101 ?_
            refine k_top (z' := g_o 3 r_o.toNat) (m_rt_1 (by omega)) ?_
            refine k_aload_n h_o 0 dX7_ways_102 rfl rfl ?_
            refine k_get h_o 19 kf_X7_13 hmd.1 rfl dX7_ways_103 ?_
            refine k_iload h_o 4 dX7_ways_106 rfl ?_
            refine k_iconst h_o dX7_ways_108 ?_
            refine k_iadd h_o dX7_ways_109 ?_
            refine k_iald h_o 21 hmd.2.2.1 (by omega) (by decide) dX7_ways_110 ?_
            refine k_top (z' := g_o 4 r_o.toNat) (m_rt_2 (by omega)) ?_
            refine k_iload h_o 6 dX7_ways_111 rfl ?_
            refine k_iconst h_o dX7_ways_113 ?_
            refine k_iadd h_o dX7_ways_114 ?_
            refine k_iload_n h_o 3 dX7_ways_115 rfl rfl ?_
            refine k_callV (As := [.int (iI (g_o 3 r_o.toNat)), .int (iI (g_o 4 r_o.toNat)), .int (iI (k_o + 1)), .int (iI j_o)]) (rest := [.int (iI ((m_part (m_Cn N_o) rx (g_o 2 r_o.toNat) i_o k_o : Nat) : Int)), .int (iI ((s_o : Nat) : Int))]) h_o mX7_twoParts kq_5_40 (c_X7_twoParts hl0 hmd hrx hN_o (by omega) (by omega) (by omega) (by omega)) 19 hmd.1 rfl rfl rfl (Nat.le_of_ble_eq_true rfl) ⟨rfl, rfl, ⟨(Nat.le_of_ble_eq_true rfl), (Nat.le_of_ble_eq_true rfl)⟩, ⟨(Nat.le_of_ble_eq_true rfl), (Nat.le_of_ble_eq_true rfl)⟩⟩ dX7_ways_116 (kcI fun z116_o w116_o hp => ?_)
            obtain ⟨rfl, rfl⟩ := hp
            refine k_imul h_o dX7_ways_119 ?_
            refine k_callS (As := [.int (iI (((m_part (m_Cn N_o) rx (g_o 2 r_o.toNat) i_o k_o : Nat) : Int) * ((m_cap (m_two (m_Cn N_o) rx (g_o 3 r_o.toNat) (g_o 4 r_o.toNat) (k_o + 1) j_o) : Nat) : Int)))]) (rest := [.int (iI ((s_o : Nat) : Int))]) h_o mX7_held kq_5_44 (c_X7_held hl0 (m_mul_rg (m_pC_le hN_o) (m_cap_le _))) rfl rfl (Nat.le_of_ble_eq_true rfl) ⟨rfl, rfl, ⟨(Nat.le_of_ble_eq_true rfl), (Nat.le_of_ble_eq_true rfl)⟩, ⟨(Nat.le_of_ble_eq_true rfl), (Nat.le_of_ble_eq_true rfl)⟩⟩ dX7_ways_120 (kcI fun z120_o w120_o hp => ?_)
            obtain ⟨rfl, rfl⟩ := hp
            refine k_top (z' := ((m_cap ((fun k_o => m_part (m_Cn N_o) rx (g_o 2 r_o.toNat) i_o k_o * m_two (m_Cn N_o) rx (g_o 3 r_o.toNat) (g_o 4 r_o.toNat) (k_o + 1) j_o) k_o) : Nat) : Int)) (by rw [← Int.natCast_mul, m_lim_cap, m_cap_mulr]) ?_
            refine k_iadd h_o dX7_ways_123 ?_
            refine k_callS (As := [.int (iI (((s_o : Nat) : Int) + ((m_cap ((fun k_o => m_part (m_Cn N_o) rx (g_o 2 r_o.toNat) i_o k_o * m_two (m_Cn N_o) rx (g_o 3 r_o.toNat) (g_o 4 r_o.toNat) (k_o + 1) j_o) k_o) : Nat) : Int)))]) (rest := []) h_o mX7_held kq_5_44 (c_X7_held hl0 (m_add_rg hs1 (m_cap_le _))) rfl rfl (Nat.le_of_ble_eq_true rfl) ⟨rfl, rfl, ⟨(Nat.le_of_ble_eq_true rfl), (Nat.le_of_ble_eq_true rfl)⟩, ⟨(Nat.le_of_ble_eq_true rfl), (Nat.le_of_ble_eq_true rfl)⟩⟩ dX7_ways_124 (kcI fun z124_o w124_o hp => ?_)
            obtain ⟨rfl, rfl⟩ := hp
            refine k_top (z' := ((m_cap (s_o + (fun k_o => m_part (m_Cn N_o) rx (g_o 2 r_o.toNat) i_o k_o * m_two (m_Cn N_o) rx (g_o 3 r_o.toNat) (g_o 4 r_o.toNat) (k_o + 1) j_o) k_o) : Nat) : Int)) (by rw [← Int.natCast_add, m_lim_cap, m_cap_addr]) ?_
            refine k_istore (lv' := [(5, .int (iI ((m_cap (s_o + (fun k_o => m_part (m_Cn N_o) rx (g_o 2 r_o.toNat) i_o k_o * m_two (m_Cn N_o) rx (g_o 3 r_o.toNat) (g_o 4 r_o.toNat) (k_o + 1) j_o) k_o) : Nat) : Int))), (0, .ref (bd 25)), (1, .int (iI r_o)), (2, .int (iI i_o)), (3, .int (iI j_o)), (4, .int (iI (3 * r_o))), (6, .int (iI k_o))]) h_o dX7_ways_127 (by decide) rfl ?_
            refine k_iinc (lv' := [(6, .int (iI (k_o + 1))), (5, .int (iI ((m_cap (s_o + (fun k_o => m_part (m_Cn N_o) rx (g_o 2 r_o.toNat) i_o k_o * m_two (m_Cn N_o) rx (g_o 3 r_o.toNat) (g_o 4 r_o.toNat) (k_o + 1) j_o) k_o) : Nat) : Int))), (0, .ref (bd 25)), (1, .int (iI r_o)), (2, .int (iI i_o)), (3, .int (iI j_o)), (4, .int (iI (3 * r_o)))]) h_o 6 dX7_ways_129 rfl (by decide) rfl ?_
            refine k_goto h_o 68 dX7_ways_132 (by decide) ?_
            refine k_sub (lv' := [(0, .ref (bd 25)), (1, .int (iI r_o)), (2, .int (iI i_o)), (3, .int (iI j_o)), (4, .int (iI (3 * r_o))), (5, .int (iI ((m_cap (s_o + (fun k_o => m_part (m_Cn N_o) rx (g_o 2 r_o.toNat) i_o k_o * m_two (m_Cn N_o) rx (g_o 3 r_o.toNat) (g_o 4 r_o.toNat) (k_o + 1) j_o) k_o) : Nat) : Int))), (6, .int (iI (k_o + 1)))]) [2, 3, 4, 5, 6, 1, 0] rfl ?_
            exact ih68 (k_o + 1) (m_cap (s_o + (fun k_o => m_part (m_Cn N_o) rx (g_o 2 r_o.toNat) i_o k_o * m_two (m_Cn N_o) rx (g_o 3 r_o.toNat) (g_o 4 r_o.toNat) (k_o + 1) j_o) k_o)) (by omega) (m_cap_le _) (m_sum_step (f := (fun k_o => m_part (m_Cn N_o) rx (g_o 2 r_o.toNat) i_o k_o * m_two (m_Cn N_o) rx (g_o 3 r_o.toNat) (g_o 4 r_o.toNat) (k_o + 1) j_o)) hk.1 hs2) (by omega)
      refine k_sub (lv' := [(0, .ref (bd 25)), (1, .int (iI r_o)), (2, .int (iI i_o)), (3, .int (iI j_o)), (4, .int (iI (3 * r_o))), (5, .int (iI 0)), (6, .int (iI i_o))]) [3, 4, 5, 6, 2, 1, 0] rfl ?_
      exact L68 ((j_o - i_o : Int).toNat + 1) i_o 0 (by omega) (by omega) (by rw [m_S_self (by omega)]; rfl) (by omega)
    · refine k_aload_n h_o 1 dX7_ways_39 rfl rfl ?_
      refine k_aload_n h_o 1 dX7_ways_40 rfl rfl ?_
      refine k_get h_o 19 kf_X7_13 hmd.1 rfl dX7_ways_41 ?_
      refine k_iload h_o 0 dX7_ways_44 rfl ?_
      refine k_iald h_o 21 hmd.2.2.1 (by omega) (by decide) dX7_ways_46 ?_
      refine k_top (z' := g_o 2 r_o.toNat) (m_rt_0 (by omega)) ?_
      refine k_aload_n h_o 1 dX7_ways_47 rfl rfl ?_
      refine k_get h_o 19 kf_X7_13 hmd.1 rfl dX7_ways_48 ?_
      refine k_iload h_o 0 dX7_ways_51 rfl ?_
      refine k_iconst h_o dX7_ways_53 ?_
      refine k_iadd h_o dX7_ways_54 ?_
      refine k_iald h_o 21 hmd.2.2.1 (by omega) (by decide) dX7_ways_55 ?_
      refine k_top (z' := g_o 3 r_o.toNat) (m_rt_1 (by omega)) ?_
      refine k_iload_n h_o 3 dX7_ways_56 rfl rfl ?_
      refine k_iload_n h_o 4 dX7_ways_57 rfl rfl ?_
      refine k_callV (As := [.int (iI (g_o 2 r_o.toNat)), .int (iI (g_o 3 r_o.toNat)), .int (iI i_o), .int (iI j_o)]) (rest := []) h_o mX7_twoParts kq_5_40 (c_X7_twoParts hl0 hmd hrx hN_o (by omega) (by omega) (by omega) (by omega)) 19 hmd.1 rfl rfl rfl (Nat.le_of_ble_eq_true rfl) ⟨rfl, rfl, ⟨(Nat.le_of_ble_eq_true rfl), (Nat.le_of_ble_eq_true rfl)⟩, ⟨(Nat.le_of_ble_eq_true rfl), (Nat.le_of_ble_eq_true rfl)⟩⟩ dX7_ways_58 (kcI fun z58_o w58_o hp => ?_)
      obtain ⟨rfl, rfl⟩ := hp
      exact k_iret h_o hr rfl (⟨_, rfl, (by unfold m_wy; rw [if_neg (by omega), if_pos (by omega)]), rfl⟩) (by omega) (by omega) dX7_ways_61
  · refine k_aload_n h_o 1 dX7_ways_15 rfl rfl ?_
    refine k_aload_n h_o 1 dX7_ways_16 rfl rfl ?_
    refine k_get h_o 19 kf_X7_13 hmd.1 rfl dX7_ways_17 ?_
    refine k_iload h_o 0 dX7_ways_20 rfl ?_
    refine k_iald h_o 21 hmd.2.2.1 (by omega) (by decide) dX7_ways_22 ?_
    refine k_top (z' := g_o 2 r_o.toNat) (m_rt_0 (by omega)) ?_
    refine k_iload_n h_o 3 dX7_ways_23 rfl rfl ?_
    refine k_iload_n h_o 4 dX7_ways_24 rfl rfl ?_
    refine k_callV (As := [.int (iI (g_o 2 r_o.toNat)), .int (iI i_o), .int (iI j_o)]) (rest := []) h_o mX7_part kq_5_36 (c_X7_part hl0 hmd hrx (by omega) (by omega) (by omega)) 19 hmd.1 rfl rfl rfl (Nat.le_of_ble_eq_true rfl) ⟨rfl, rfl, ⟨(Nat.le_of_ble_eq_true rfl), (Nat.le_of_ble_eq_true rfl)⟩, ⟨(Nat.le_of_ble_eq_true rfl), (Nat.le_of_ble_eq_true rfl)⟩⟩ dX7_ways_25 (kcI fun z25_o w25_o hp => ?_)
    obtain ⟨rfl, rfl⟩ := hp
    exact k_iret h_o hr rfl (⟨_, rfl, (by unfold m_wy; rw [if_pos (by omega), m_cap_id (m_pC_le hN_o)]), rfl⟩) (by omega) (by omega) dX7_ways_28
