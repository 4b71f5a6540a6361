set_option maxHeartbeats 400000 in
set_option maxRecDepth 100000 in
theorem c_X6_isName {E_o : kE} {l_o : Launch} (hl0 : l_o.stackTraces = false) {w_o : kW} {x_o : Int} (hx : -2147483648 ≤ x_o ∧ x_o < 2147483648) : kM E_o l_o yX6_isName (.code yX6_isName cX6_isName 1 (some .boolean) :: kAL) { frames := 0, cells := 0, slots := 0, locals := 0 } 0 0 [.int (iI x_o)] w_o (pI (fun z_o w2_o => bI (m_isN x_o) = z_o ∧ w_o = w2_o)) := by
  refine kM_of hl0 (by decide +kernel) (Nat.le_of_ble_eq_true rfl) ?_
  intro X_o hXl h_o hr hin
  subst hXl
  show kG E_o X_o 1 0 0 w_o 0 [(0, .int (iI x_o))] []
  refine k_iload_n h_o 0 dX6_isName_0 rfl rfl ?_
  refine k_bipush h_o dX6_isName_1 (by decide) ?_
  refine k_icmp_lt h_o 16 (by omega) (by decide) dX6_isName_3 (by decide) (fun h3_o => ?_) (fun h3_o => ?_)
  · refine k_iconst h_o dX6_isName_16 ?_
    exact k_iret h_o hr rfl (⟨_, rfl, (bI_f (by omega)), rfl⟩) (by omega) (by omega) dX6_isName_17
  · refine k_iload_n h_o 0 dX6_isName_6 rfl rfl ?_
    refine k_bipush h_o dX6_isName_7 (by decide) ?_
    refine k_icmp_ge h_o 16 (by omega) (by decide) dX6_isName_9 (by decide) (fun h9_o => ?_) (fun h9_o => ?_)
    · refine k_iconst h_o dX6_isName_16 ?_
      exact k_iret h_o hr rfl (⟨_, rfl, (bI_f (by omega)), rfl⟩) (by omega) (by omega) dX6_isName_17
    · refine k_iconst h_o dX6_isName_12 ?_
      refine k_goto h_o 17 dX6_isName_13 (by decide) ?_
      exact k_iret h_o hr rfl (⟨_, rfl, (bI_t (by omega)), rfl⟩) (by omega) (by omega) dX6_isName_17

set_option maxHeartbeats 400000 in
set_option maxRecDepth 100000 in
theorem c_X6_isSymbol {E_o : kE} {l_o : Launch} (hl0 : l_o.stackTraces = false) {w_o : kW} {x_o : Int} (hx : -2147483648 ≤ x_o ∧ x_o < 2147483648) : kM E_o l_o yX6_isSymbol (.code yX6_isSymbol cX6_isSymbol 1 (some .boolean) :: kAL) { frames := 1, cells := 0, slots := 0, locals := 20 } 0 0 [.int (iI x_o)] w_o (pI (fun z_o w2_o => bI (m_isS x_o) = z_o ∧ w_o = w2_o)) := by
  refine kM_of hl0 (by decide +kernel) (Nat.le_of_ble_eq_true rfl) ?_
  intro X_o hXl h_o hr hin
  subst hXl
  show kG E_o X_o 1 0 0 w_o 0 [(0, .int (iI x_o))] []
  refine k_iload_n h_o 0 dX6_isSymbol_0 rfl rfl ?_
  refine k_callS (As := [.int (iI x_o)]) (rest := []) h_o mX6_isLetter kq_2_63 (c_X6_isLetter hl0 (by omega)) rfl rfl (Nat.le_of_ble_eq_true rfl) ⟨rfl, rfl, ⟨(Nat.le_of_ble_eq_true rfl), (Nat.le_of_ble_eq_true rfl)⟩, ⟨(Nat.le_of_ble_eq_true rfl), (Nat.le_of_ble_eq_true rfl)⟩⟩ dX6_isSymbol_1 (kcI fun z1_o w1_o hp => ?_)
  obtain ⟨rfl, rfl⟩ := hp
  refine k_ifBne h_o 14 dX6_isSymbol_4 (by decide) (fun h4_o => ?_) (fun h4_o => ?_)
  · refine k_iconst h_o dX6_isSymbol_14 ?_
    refine k_goto h_o 19 dX6_isSymbol_15 (by decide) ?_
    exact k_iret h_o hr rfl (⟨_, rfl, (bI_t (by omega)), rfl⟩) (by omega) (by omega) dX6_isSymbol_19
  · refine k_iload_n h_o 0 dX6_isSymbol_7 rfl rfl ?_
    refine k_callS (As := [.int (iI x_o)]) (rest := []) h_o mX6_isName kq_2_57 (c_X6_isName hl0 (by omega)) rfl rfl (Nat.le_of_ble_eq_true rfl) ⟨rfl, rfl, ⟨(Nat.le_of_ble_eq_true rfl), (Nat.le_of_ble_eq_true rfl)⟩, ⟨(Nat.le_of_ble_eq_true rfl), (Nat.le_of_ble_eq_true rfl)⟩⟩ dX6_isSymbol_8 (kcI fun z8_o w8_o hp => ?_)
    obtain ⟨rfl, rfl⟩ := hp
    refine k_ifBeq h_o 18 dX6_isSymbol_11 (by decide) (fun h11_o => ?_) (fun h11_o => ?_)
    · refine k_iconst h_o dX6_isSymbol_18 ?_
      exact k_iret h_o hr rfl (⟨_, rfl, (bI_f (by omega)), rfl⟩) (by omega) (by omega) dX6_isSymbol_19
    · refine k_iconst h_o dX6_isSymbol_14 ?_
      refine k_goto h_o 19 dX6_isSymbol_15 (by decide) ?_
      exact k_iret h_o hr rfl (⟨_, rfl, (bI_t (by omega)), rfl⟩) (by omega) (by omega) dX6_isSymbol_19

set_option maxHeartbeats 400000 in
set_option maxRecDepth 100000 in
theorem c_X6_isRuleForm {E_o : kE} {l_o : Launch} (hl0 : l_o.stackTraces = false) {w_o : kW} {x_o y_o u_o v_o : Int} (hx : -2147483648 ≤ x_o ∧ x_o < 2147483648) (hy : -2147483648 ≤ y_o ∧ y_o < 2147483648) (hu : -2147483648 ≤ u_o ∧ u_o < 2147483648) (hv : -2147483648 ≤ v_o ∧ v_o < 2147483648) : kM E_o l_o yX6_isRuleForm (.code yX6_isRuleForm cX6_isRuleForm 4 (some .boolean) :: kAL) { frames := 2, cells := 0, slots := 0, locals := 40 } 0 0 [.int (iI x_o), .int (iI y_o), .int (iI u_o), .int (iI v_o)] w_o (pI (fun z_o w2_o => bI (m_rf x_o y_o u_o v_o) = z_o ∧ w_o = w2_o)) := by
  refine kM_of hl0 (by decide +kernel) (Nat.le_of_ble_eq_true rfl) ?_
  intro X_o hXl h_o hr hin
  subst hXl
  show kG E_o X_o 4 0 0 w_o 0 [(0, .int (iI x_o)), (1, .int (iI y_o)), (2, .int (iI u_o)), (3, .int (iI v_o))] []
  refine k_iload_n h_o 0 dX6_isRuleForm_0 rfl rfl ?_
  refine k_callS (As := [.int (iI x_o)]) (rest := []) h_o mX6_isName kq_2_57 (c_X6_isName hl0 (by omega)) rfl rfl (Nat.le_of_ble_eq_true rfl) ⟨rfl, rfl, ⟨(Nat.le_of_ble_eq_true rfl), (Nat.le_of_ble_eq_true rfl)⟩, ⟨(Nat.le_of_ble_eq_true rfl), (Nat.le_of_ble_eq_true rfl)⟩⟩ dX6_isRuleForm_1 (kcI fun z1_o w1_o hp => ?_)
  obtain ⟨rfl, rfl⟩ := hp
  refine k_ifBeq h_o 14 dX6_isRuleForm_4 (by decide) (fun h4_o => ?_) (fun h4_o => ?_)
  · refine k_iconst h_o dX6_isRuleForm_14 ?_
    exact k_iret h_o hr rfl (⟨_, rfl, (bI_f (by omega)), rfl⟩) (by omega) (by omega) dX6_isRuleForm_15
  · refine k_iload_n h_o 1 dX6_isRuleForm_7 rfl rfl ?_
    refine k_callS (As := [.int (iI y_o)]) (rest := []) h_o mX6_isSymbol kq_2_60 (c_X6_isSymbol hl0 (by omega)) rfl rfl (Nat.le_of_ble_eq_true rfl) ⟨rfl, rfl, ⟨(Nat.le_of_ble_eq_true rfl), (Nat.le_of_ble_eq_true rfl)⟩, ⟨(Nat.le_of_ble_eq_true rfl), (Nat.le_of_ble_eq_true rfl)⟩⟩ dX6_isRuleForm_8 (kcI fun z8_o w8_o hp => ?_)
    obtain ⟨rfl, rfl⟩ := hp
    refine k_ifBne h_o 16 dX6_isRuleForm_11 (by decide) (fun h11_o => ?_) (fun h11_o => ?_)
    · refine k_iload_n h_o 2 dX6_isRuleForm_16 rfl rfl ?_
      refine k_iconst h_o dX6_isRuleForm_17 ?_
      refine k_icmp_ne h_o 44 (by omega) (by decide) dX6_isRuleForm_18 (by decide) (fun h18_o => ?_) (fun h18_o => ?_)
      · refine k_iload_n h_o 2 dX6_isRuleForm_44 rfl rfl ?_
        refine k_callS (As := [.int (iI u_o)]) (rest := []) h_o mX6_isSymbol kq_2_60 (c_X6_isSymbol hl0 (by omega)) rfl rfl (Nat.le_of_ble_eq_true rfl) ⟨rfl, rfl, ⟨(Nat.le_of_ble_eq_true rfl), (Nat.le_of_ble_eq_true rfl)⟩, ⟨(Nat.le_of_ble_eq_true rfl), (Nat.le_of_ble_eq_true rfl)⟩⟩ dX6_isRuleForm_45 (kcI fun z45_o w45_o hp => ?_)
        obtain ⟨rfl, rfl⟩ := hp
        refine k_ifBeq h_o 67 dX6_isRuleForm_48 (by decide) (fun h48_o => ?_) (fun h48_o => ?_)
        · refine k_iconst h_o dX6_isRuleForm_67 ?_
          exact k_iret h_o hr rfl (⟨_, rfl, (bI_f (by omega)), rfl⟩) (by omega) (by omega) dX6_isRuleForm_68
        · refine k_iload_n h_o 3 dX6_isRuleForm_51 rfl rfl ?_
          refine k_iconst h_o dX6_isRuleForm_52 ?_
          refine k_icmp_eq h_o 63 (by omega) (by decide) dX6_isRuleForm_53 (by decide) (fun h53_o => ?_) (fun h53_o => ?_)
          · refine k_iconst h_o dX6_isRuleForm_63 ?_
            refine k_goto h_o 68 dX6_isRuleForm_64 (by decide) ?_
            exact k_iret h_o hr rfl (⟨_, rfl, (bI_t (by omega)), rfl⟩) (by omega) (by omega) dX6_isRuleForm_68
          · refine k_iload_n h_o 3 dX6_isRuleForm_56 rfl rfl ?_
            refine k_callS (As := [.int (iI v_o)]) (rest := []) h_o mX6_isSymbol kq_2_60 (c_X6_isSymbol hl0 (by omega)) rfl rfl (Nat.le_of_ble_eq_true rfl) ⟨rfl, rfl, ⟨(Nat.le_of_ble_eq_true rfl), (Nat.le_of_ble_eq_true rfl)⟩, ⟨(Nat.le_of_ble_eq_true rfl), (Nat.le_of_ble_eq_true rfl)⟩⟩ dX6_isRuleForm_57 (kcI fun z57_o w57_o hp => ?_)
            obtain ⟨rfl, rfl⟩ := hp
            refine k_ifBeq h_o 67 dX6_isRuleForm_60 (by decide) (fun h60_o => ?_) (fun h60_o => ?_)
            · refine k_iconst h_o dX6_isRuleForm_67 ?_
              exact k_iret h_o hr rfl (⟨_, rfl, (bI_f (by omega)), rfl⟩) (by omega) (by omega) dX6_isRuleForm_68
            · refine k_iconst h_o dX6_isRuleForm_63 ?_
              refine k_goto h_o 68 dX6_isRuleForm_64 (by decide) ?_
              exact k_iret h_o hr rfl (⟨_, rfl, (bI_t (by omega)), rfl⟩) (by omega) (by omega) dX6_isRuleForm_68
      · refine k_iload_n h_o 3 dX6_isRuleForm_21 rfl rfl ?_
        refine k_iconst h_o dX6_isRuleForm_22 ?_
        refine k_icmp_ne h_o 42 (by omega) (by decide) dX6_isRuleForm_23 (by decide) (fun h23_o => ?_) (fun h23_o => ?_)
        · refine k_iconst h_o dX6_isRuleForm_42 ?_
          exact k_iret h_o hr rfl (⟨_, rfl, (bI_f (by omega)), rfl⟩) (by omega) (by omega) dX6_isRuleForm_43
        · refine k_iload_n h_o 1 dX6_isRuleForm_26 rfl rfl ?_
          refine k_callS (As := [.int (iI y_o)]) (rest := []) h_o mX6_isLetter kq_2_63 (c_X6_isLetter hl0 (by omega)) rfl rfl (Nat.le_of_ble_eq_true rfl) ⟨rfl, rfl, ⟨(Nat.le_of_ble_eq_true rfl), (Nat.le_of_ble_eq_true rfl)⟩, ⟨(Nat.le_of_ble_eq_true rfl), (Nat.le_of_ble_eq_true rfl)⟩⟩ dX6_isRuleForm_27 (kcI fun z27_o w27_o hp => ?_)
          obtain ⟨rfl, rfl⟩ := hp
          refine k_ifBne h_o 38 dX6_isRuleForm_30 (by decide) (fun h30_o => ?_) (fun h30_o => ?_)
          · refine k_iconst h_o dX6_isRuleForm_38 ?_
            refine k_goto h_o 43 dX6_isRuleForm_39 (by decide) ?_
            exact k_iret h_o hr rfl (⟨_, rfl, (bI_t (by omega)), rfl⟩) (by omega) (by omega) dX6_isRuleForm_43
          · refine k_iload_n h_o 1 dX6_isRuleForm_33 rfl rfl ?_
            refine k_iload_n h_o 0 dX6_isRuleForm_34 rfl rfl ?_
            refine k_icmp_le h_o 42 (by omega) (by omega) dX6_isRuleForm_35 (by decide) (fun h35_o => ?_) (fun h35_o => ?_)
            · refine k_iconst h_o dX6_isRuleForm_42 ?_
              exact k_iret h_o hr rfl (⟨_, rfl, (bI_f (by omega)), rfl⟩) (by omega) (by omega) dX6_isRuleForm_43
            · refine k_iconst h_o dX6_isRuleForm_38 ?_
              refine k_goto h_o 43 dX6_isRuleForm_39 (by decide) ?_
              exact k_iret h_o hr rfl (⟨_, rfl, (bI_t (by omega)), rfl⟩) (by omega) (by omega) dX6_isRuleForm_43
    · refine k_iconst h_o dX6_isRuleForm_14 ?_
      exact k_iret h_o hr rfl (⟨_, rfl, (bI_f (by omega)), rfl⟩) (by omega) (by omega) dX6_isRuleForm_15

set_option maxHeartbeats 400000 in
set_option maxRecDepth 100000 in
theorem c_X6_isWithin {E_o : kE} {l_o : Launch} (hl0 : l_o.stackTraces = false) {w_o : kW} {x_o y_o u_o : Int} (hx : -2147483648 ≤ x_o ∧ x_o < 2147483648) (hy : -2147483648 ≤ y_o ∧ y_o < 2147483648) (hu : -2147483648 ≤ u_o ∧ u_o < 2147483648) : kM E_o l_o yX6_isWithin (.code yX6_isWithin cX6_isWithin 3 (some .boolean) :: kAL) { frames := 0, cells := 0, slots := 0, locals := 0 } 0 0 [.int (iI x_o), .int (iI y_o), .int (iI u_o)] w_o (pI (fun z_o w2_o => bI (y_o ≤ x_o ∧ x_o ≤ u_o) = z_o ∧ w_o = w2_o)) := by
  refine kM_of hl0 (by decide +kernel) (Nat.le_of_ble_eq_true rfl) ?_
  intro X_o hXl h_o hr hin
  subst hXl
  show kG E_o X_o 3 0 0 w_o 0 [(0, .int (iI x_o)), (1, .int (iI y_o)), (2, .int (iI u_o))] []
  refine k_iload_n h_o 0 dX6_isWithin_0 rfl rfl ?_
  refine k_iload_n h_o 1 dX6_isWithin_1 rfl rfl ?_
  refine k_icmp_lt h_o 14 (by omega) (by omega) dX6_isWithin_2 (by decide) (fun h2_o => ?_) (fun h2_o => ?_)
  · refine k_iconst h_o dX6_isWithin_14 ?_
    exact k_iret h_o hr rfl (⟨_, rfl, (bI_f (by omega)), rfl⟩) (by omega) (by omega) dX6_isWithin_15
  · refine k_iload_n h_o 0 dX6_isWithin_5 rfl rfl ?_
    refine k_iload_n h_o 2 dX6_isWithin_6 rfl rfl ?_
    refine k_icmp_gt h_o 14 (by omega) (by omega) dX6_isWithin_7 (by decide) (fun h7_o => ?_) (fun h7_o => ?_)
    · refine k_iconst h_o dX6_isWithin_14 ?_
      exact k_iret h_o hr rfl (⟨_, rfl, (bI_f (by omega)), rfl⟩) (by omega) (by omega) dX6_isWithin_15
    · refine k_iconst h_o dX6_isWithin_10 ?_
      refine k_goto h_o 15 dX6_isWithin_11 (by decide) ?_
      exact k_iret h_o hr rfl (⟨_, rfl, (bI_t (by omega)), rfl⟩) (by omega) (by omega) dX6_isWithin_15

set_option maxHeartbeats 400000 in
set_option maxRecDepth 100000 in
theorem c_X6_requireLetter {E_o : kE} {l_o : Launch} (hl0 : l_o.stackTraces = false) {w_o : kW} {x_o : Int} (hx : -2147483648 ≤ x_o ∧ x_o < 2147483648) : kMX E_o l_o yX6_requireLetter (.code yX6_requireLetter cX6_requireLetter 1 none :: kAL) { frames := 6, cells := 1, slots := 6, locals := 81 } 1 6 [.int (iI x_o)] w_o (pV (fun w2_o => m_isL x_o ∧ w_o = w2_o)) (fun Ex w2_o => Ex = "java/lang/IllegalArgumentException" ∧ ¬ m_isL x_o ∧ w_o = w2_o) := by
  refine kMX_of hl0 (by decide +kernel) (Nat.le_of_ble_eq_true rfl) ?_
  intro X_o hXl h_o hr
  subst hXl
  show kG E_o X_o 1 0 0 w_o 0 [(0, .int (iI x_o))] []
  refine k_iload_n h_o 0 dX6_requireLetter_0 rfl rfl ?_
  refine k_callS (As := [.int (iI x_o)]) (rest := []) h_o mX6_isLetter kq_2_63 (c_X6_isLetter hl0 (by omega)) rfl rfl (Nat.le_of_ble_eq_true rfl) ⟨rfl, rfl, ⟨(Nat.le_of_ble_eq_true rfl), (Nat.le_of_ble_eq_true rfl)⟩, ⟨(Nat.le_of_ble_eq_true rfl), (Nat.le_of_ble_eq_true rfl)⟩⟩ dX6_requireLetter_1 (kcI fun z1_o w1_o hp => ?_)
  obtain ⟨rfl, rfl⟩ := hp
  refine k_ifBne h_o 15 dX6_requireLetter_4 (by decide) (fun h4_o => ?_) (fun h4_o => ?_)
  · exact k_vret h_o hr.ret (⟨rfl, h4_o, rfl⟩) (by omega) (by omega) dX6_requireLetter_15
  · exact k_throw0 (names := ["java/lang/RuntimeException", "java/lang/Exception"]) h_o hr (by decide +kernel) (by decide +kernel) kq_2_64 kq_1_10 kx1_IAE kx2_IAE kx3_IAE dX6_requireLetter_7 dX6_requireLetter_10 dX6_requireLetter_11 dX6_requireLetter_14 ⟨by decide, by decide, by decide, by decide⟩ (⟨rfl, h4_o, rfl⟩) (by decide) (by decide)

set_option maxHeartbeats 400000 in
set_option maxRecDepth 100000 in
theorem c_X6_requirePlace {E_o : kE} {l_o : Launch} (hl0 : l_o.stackTraces = false) {w_o : kW} {q_o a_o la na : Nat} {lt_o : Nat → Int} {N_o : Nat → Nat} {c_o : Int} {x_o : Int} (hsp : kSp w_o q_o a_o la na lt_o N_o c_o) (hc_o : 0 ≤ c_o ∧ c_o ≤ 10) (hx : -2147483648 ≤ x_o ∧ x_o < 2147483648) : kMX E_o l_o yX6_requirePlace (.code yX6_requirePlace cX6_requirePlace 2 none :: kAL) { frames := 6, cells := 1, slots := 6, locals := 81 } 1 6 [.ref a_o, .int (iI x_o)] w_o (pV (fun w2_o => (0 ≤ x_o ∧ x_o < c_o) ∧ w_o = w2_o)) (fun Ex w2_o => Ex = "java/lang/IndexOutOfBoundsException" ∧ ¬ (0 ≤ x_o ∧ x_o < c_o) ∧ w_o = w2_o) := by
  refine kMX_of hl0 (by decide +kernel) (Nat.le_of_ble_eq_true rfl) ?_
  intro X_o hXl h_o hr
  subst hXl
  show kG E_o X_o 2 0 0 w_o 0 [(0, .ref a_o), (1, .int (iI x_o))] []
  refine k_iload_n h_o 1 dX6_requirePlace_0 rfl rfl ?_
  refine k_iflt h_o 12 (by omega) dX6_requirePlace_1 (by decide) (fun h1_o => ?_) (fun h1_o => ?_)
  · exact k_throw0 (names := ["java/lang/RuntimeException", "java/lang/Exception"]) h_o hr (by decide +kernel) (by decide +kernel) kq_3_114 kq_1_16 kx1_IOB kx2_IOB kx3_IOB dX6_requirePlace_12 dX6_requirePlace_15 dX6_requirePlace_16 dX6_requirePlace_19 ⟨by decide, by decide, by decide, by decide⟩ (⟨rfl, (by omega), rfl⟩) (by decide) (by decide)
  · refine k_iload_n h_o 1 dX6_requirePlace_4 rfl rfl ?_
    refine k_aload_n h_o 0 dX6_requirePlace_5 rfl rfl ?_
    refine k_get h_o q_o kf_X6_131 hsp.1 rfl dX6_requirePlace_6 ?_
    refine k_icmp_lt h_o 20 (by omega) (by omega) dX6_requirePlace_9 (by decide) (fun h9_o => ?_) (fun h9_o => ?_)
    · exact k_vret h_o hr.ret (⟨rfl, (by omega), rfl⟩) (by omega) (by omega) dX6_requirePlace_20
    · exact k_throw0 (names := ["java/lang/RuntimeException", "java/lang/Exception"]) h_o hr (by decide +kernel) (by decide +kernel) kq_3_114 kq_1_16 kx1_IOB kx2_IOB kx3_IOB dX6_requirePlace_12 dX6_requirePlace_15 dX6_requirePlace_16 dX6_requirePlace_19 ⟨by decide, by decide, by decide, by decide⟩ (⟨rfl, (by omega), rfl⟩) (by decide) (by decide)

set_option maxHeartbeats 400000 in
set_option maxRecDepth 100000 in
theorem c_X6_existingText {E_o : kE} {l_o : Launch} (hl0 : l_o.stackTraces = false) {w_o : kW} {ad : Nat → Nat} {T_o : Nat} {rel fnd x_o : Int} (hpo : kPo w_o ad T_o rel fnd) (hts : kTs w_o ad T_o) (hx : -2147483648 ≤ x_o ∧ x_o < 2147483648) : kMX E_o l_o yX6_existingText (.code yX6_existingText cX6_existingText 3 (some (.object "Parserpark$Text")) :: kAL) { frames := 6, cells := 1, slots := 6, locals := 81 } 1 6 [.ref (ad 0), .int (iI x_o)] w_o (pR (fun a_o w2_o => ad (200 + 5 * x_o.toNat) = a_o ∧ (0 ≤ x_o ∧ x_o < (T_o : Int)) ∧ w_o = w2_o)) (fun Ex w2_o => Ex = "java/lang/IndexOutOfBoundsException" ∧ ¬ (0 ≤ x_o ∧ x_o < (T_o : Int)) ∧ w_o = w2_o) := by
  refine kMX_of hl0 (by decide +kernel) (Nat.le_of_ble_eq_true rfl) ?_
  intro X_o hXl h_o hr
  subst hXl
  have hT6 := hts.2
  show kG E_o X_o 3 0 0 w_o 0 [(0, .ref (ad 0)), (1, .int (iI x_o))] []
  refine k_iload_n h_o 1 dX6_existingText_0 rfl rfl ?_
  refine k_iflt h_o 22 (by omega) dX6_existingText_1 (by decide) (fun h1_o => ?_) (fun h1_o => ?_)
  · refine k_null h_o dX6_existingText_22 ?_
    refine k_astore_nN (lv' := [(2, .null), (0, .ref (ad 0)), (1, .int (iI x_o))]) h_o dX6_existingText_23 rfl (by decide) rfl ?_
    refine k_aload_nN h_o 0 dX6_existingText_24 rfl rfl ?_
    refine k_ifnonnullN h_o dX6_existingText_25 ?_
    exact k_throw0 (names := ["java/lang/RuntimeException", "java/lang/Exception"]) h_o hr (by decide +kernel) (by decide +kernel) kq_3_114 kq_1_16 kx1_IOB kx2_IOB kx3_IOB dX6_existingText_28 dX6_existingText_31 dX6_existingText_32 dX6_existingText_35 ⟨by decide, by decide, by decide, by decide⟩ (⟨rfl, (by omega), rfl⟩) (by decide) (by decide)
  · refine k_iload_n h_o 1 dX6_existingText_4 rfl rfl ?_
    refine k_aload_n h_o 0 dX6_existingText_5 rfl rfl ?_
    refine k_get h_o 0 kf_X6_18 hpo rfl dX6_existingText_6 ?_
    refine k_alen h_o 3 hts.1 rfl dX6_existingText_9 ?_
    show kG E_o X_o 3 _ _ _ _ _ (.int (iI 6) :: _)
    refine k_icmp_ge h_o 22 (by omega) (by decide) dX6_existingText_10 (by decide) (fun h10_o => ?_) (fun h10_o => ?_)
    · refine k_null h_o dX6_existingText_22 ?_
      refine k_astore_nN (lv' := [(2, .null), (0, .ref (ad 0)), (1, .int (iI x_o))]) h_o dX6_existingText_23 rfl (by decide) rfl ?_
      refine k_aload_nN h_o 0 dX6_existingText_24 rfl rfl ?_
      refine k_ifnonnullN h_o dX6_existingText_25 ?_
      exact k_throw0 (names := ["java/lang/RuntimeException", "java/lang/Exception"]) h_o hr (by decide +kernel) (by decide +kernel) kq_3_114 kq_1_16 kx1_IOB kx2_IOB kx3_IOB dX6_existingText_28 dX6_existingText_31 dX6_existingText_32 dX6_existingText_35 ⟨by decide, by decide, by decide, by decide⟩ (⟨rfl, (by omega), rfl⟩) (by decide) (by decide)
    · refine k_aload_n h_o 0 dX6_existingText_13 rfl rfl ?_
      refine k_get h_o 0 kf_X6_18 hpo rfl dX6_existingText_14 ?_
      refine k_iload_n h_o 1 dX6_existingText_17 rfl rfl ?_
      refine k_aald h_o 3 hts.1 rfl (by omega) (by decide) dX6_existingText_18 ?_
      by_cases hxn : x_o < (T_o : Int)
      · refine k_topQ (a := ad (200 + 5 * x_o.toNat)) (if_pos (by omega)) ?_
        refine k_goto h_o 23 dX6_existingText_19 (by decide) ?_
        refine k_astore_n (lv' := [(2, .ref (ad (200 + 5 * x_o.toNat))), (0, .ref (ad 0)), (1, .int (iI x_o))]) h_o dX6_existingText_23 rfl (by decide) rfl ?_
        refine k_aload_n h_o 0 dX6_existingText_24 rfl rfl ?_
        refine k_ifnonnull h_o 36 dX6_existingText_25 (by decide) ?_
        refine k_aload_n h_o 0 dX6_existingText_36 rfl rfl ?_
        exact k_aret h_o hr.ret (⟨_, rfl, rfl, (by omega), rfl⟩) (by omega) (by omega) dX6_existingText_37
      · refine k_topN (if_neg (by omega)) ?_
        refine k_goto h_o 23 dX6_existingText_19 (by decide) ?_
        refine k_astore_nN (lv' := [(2, .null), (0, .ref (ad 0)), (1, .int (iI x_o))]) h_o dX6_existingText_23 rfl (by decide) rfl ?_
        refine k_aload_nN h_o 0 dX6_existingText_24 rfl rfl ?_
        refine k_ifnonnullN h_o dX6_existingText_25 ?_
        exact k_throw0 (names := ["java/lang/RuntimeException", "java/lang/Exception"]) h_o hr (by decide +kernel) (by decide +kernel) kq_3_114 kq_1_16 kx1_IOB kx2_IOB kx3_IOB dX6_existingText_28 dX6_existingText_31 dX6_existingText_32 dX6_existingText_35 ⟨by decide, by decide, by decide, by decide⟩ (⟨rfl, (by omega), rfl⟩) (by decide) (by decide)

set_option maxHeartbeats 400000 in
set_option maxRecDepth 100000 in
theorem c_X6_existingRule {E_o : kE} {l_o : Launch} (hl0 : l_o.stackTraces = false) {w_o : kW} {ad : Nat → Nat} {T_o : Nat} {nr : Nat} {g_o : Nat → Nat → Int} {rel fnd x_o : Int} (hpo : kPo w_o ad T_o rel fnd) (hgr : kGa w_o ad nr g_o) (hwf : kWf g_o nr) (hx : -2147483648 ≤ x_o ∧ x_o < 2147483648) : kMX E_o l_o yX6_existingRule (.code yX6_existingRule cX6_existingRule 3 (some (.object "Parserpark$Rule")) :: kAL) { frames := 6, cells := 1, slots := 6, locals := 81 } 1 6 [.ref (ad 0), .int (iI x_o)] w_o (pR (fun a_o w2_o => ad (100 + x_o.toNat) = a_o ∧ m_live g_o nr x_o ∧ w_o = w2_o)) (fun Ex w2_o => Ex = "java/util/NoSuchElementException" ∧ ¬ m_live g_o nr x_o ∧ w_o = w2_o) := by
  refine kMX_of hl0 (by decide +kernel) (Nat.le_of_ble_eq_true rfl) ?_
  intro X_o hXl h_o hr
  subst hXl
  show kG E_o X_o 3 0 0 w_o 0 [(0, .ref (ad 0)), (1, .int (iI x_o))] []
  refine k_aload_n h_o 0 dX6_existingRule_0 rfl rfl ?_
  refine k_get h_o 0 kf_X6_12 hpo rfl dX6_existingRule_1 ?_
  refine k_iload_n h_o 1 dX6_existingRule_4 rfl rfl ?_
  refine k_callV (As := [.int (iI x_o)]) (rest := []) h_o mX0_liveRule kq_2_236 (c_X0_liveRule hl0 hgr hwf (by omega)) 1 hgr.1 rfl rfl rfl (Nat.le_of_ble_eq_true rfl) ⟨rfl, rfl, ⟨(Nat.le_of_ble_eq_true rfl), (Nat.le_of_ble_eq_true rfl)⟩, ⟨(Nat.le_of_ble_eq_true rfl), (Nat.le_of_ble_eq_true rfl)⟩⟩ dX6_existingRule_5 (kcQ fun z5_o w5_o hp => ?_)
  obtain ⟨hp, rfl⟩ := hp
  rcases hp with ⟨hlv, ho⟩ | ⟨hlv, ho⟩
  · refine k_topQ (a := ad (100 + x_o.toNat)) ho ?_
    refine k_astore_n (lv' := [(2, .ref (ad (100 + x_o.toNat))), (0, .ref (ad 0)), (1, .int (iI x_o))]) h_o dX6_existingRule_8 rfl (by decide) rfl ?_
    refine k_aload_n h_o 0 dX6_existingRule_9 rfl rfl ?_
    refine k_ifnonnull h_o 21 dX6_existingRule_10 (by decide) ?_
    refine k_aload_n h_o 0 dX6_existingRule_21 rfl rfl ?_
    exact k_aret h_o hr.ret (⟨_, rfl, rfl, hlv, rfl⟩) (by omega) (by omega) dX6_existingRule_22
  · refine k_topN ho ?_
    refine k_astore_nN (lv' := [(2, .null), (0, .ref (ad 0)), (1, .int (iI x_o))]) h_o dX6_existingRule_8 rfl (by decide) rfl ?_
    refine k_aload_nN h_o 0 dX6_existingRule_9 rfl rfl ?_
    refine k_ifnonnullN h_o dX6_existingRule_10 ?_
    exact k_throw0 (names := ["java/lang/RuntimeException", "java/lang/Exception"]) h_o hr (by decide +kernel) (by decide +kernel) kq_2_237 kq_1_13 kx1_NSE kx2_NSE kx3_NSE dX6_existingRule_13 dX6_existingRule_16 dX6_existingRule_17 dX6_existingRule_20 ⟨by decide, by decide, by decide, by decide⟩ (⟨rfl, hlv, rfl⟩) (by decide) (by decide)

set_option maxHeartbeats 400000 in
set_option maxRecDepth 100000 in
theorem c_X6_rules {E_o : kE} {l_o : Launch} (hl0 : l_o.stackTraces = false) {w_o : kW} {ad : Nat → Nat} {nr : Nat} {g_o : Nat → Nat → Int} {T_o : Nat} {lts : Nat → Nat → Int} {cs : Nat → Int} {acs : Nat → Nat → Int} {ams : Nat → Int} {rel fnd : Int} {Ns : Nat → Nat → Nat}  (hst : kSu w_o ad nr g_o T_o lts cs acs ams rel fnd Ns)  : kM E_o l_o yX6_rules (.code yX6_rules cX6_rules 1 (some .int) :: kAL) { frames := 2, cells := 0, slots := 0, locals := 44 } 0 0 [.ref (ad 0)] w_o (pI (fun z_o w2_o => m_cl g_o nr = z_o ∧ kSv w_o w2_o ad nr g_o T_o lts cs acs ams rel fnd Ns)) := by
  refine kM_of hl0 (by decide +kernel) (Nat.le_of_ble_eq_true rfl) ?_
  intro X_o hXl h_o hr hin
  subst hXl
  obtain ⟨⟨hpo, hgr, hwf, hts, hsc, hlo, hto, htx, htj⟩, hT⟩ := id hst
  obtain ⟨ls, Nz, cz, hs4, hs5, hs6⟩ := hsc
  obtain ⟨O_o, sk, hly, hOi⟩ := hlo
  obtain ⟨ht15, kn, ht16⟩ := hto
  have hnr := hgr.2.2.2
  have hT6 := hts.2
  show kG E_o X_o 1 0 0 w_o 0 [(0, .ref (ad 0))] []
  refine k_aload_n h_o 0 dX6_rules_0 rfl rfl ?_
  refine k_get h_o 0 kf_X6_12 hpo rfl dX6_rules_1 ?_
  refine k_callV (As := []) (rest := []) h_o mX0_countLive kq_1_153 (c_X0_countLive hl0 hgr hwf) 1 hgr.1 rfl rfl rfl (Nat.le_of_ble_eq_true rfl) ⟨rfl, rfl, ⟨(Nat.le_of_ble_eq_true rfl), (Nat.le_of_ble_eq_true rfl)⟩, ⟨(Nat.le_of_ble_eq_true rfl), (Nat.le_of_ble_eq_true rfl)⟩⟩ dX6_rules_4 (kcI fun z4_o w4_o hp => ?_)
  obtain ⟨rfl, rfl⟩ := hp
  exact k_iret h_o hr rfl (⟨_, rfl, rfl, hst, kEx.rfl⟩) (by omega) (by omega) dX6_rules_7

set_option maxHeartbeats 400000 in
set_option maxRecDepth 100000 in
theorem c_X6_length {E_o : kE} {l_o : Launch} (hl0 : l_o.stackTraces = false) {w_o : kW} {ad : Nat → Nat} {nr : Nat} {g_o : Nat → Nat → Int} {T_o : Nat} {lts : Nat → Nat → Int} {cs : Nat → Int} {acs : Nat → Nat → Int} {ams : Nat → Int} {rel fnd : Int} {Ns : Nat → Nat → Nat} {x_o : Int} (hst : kSu w_o ad nr g_o T_o lts cs acs ams rel fnd Ns) (hx : -2147483648 ≤ x_o ∧ x_o < 2147483648) : kMX E_o l_o yX6_length (.code yX6_length cX6_length 2 (some .int) :: kAL) { frames := 7, cells := 1, slots := 6, locals := 103 } 1 6 [.ref (ad 0), .int (iI x_o)] w_o (pI (fun z_o w2_o => cs x_o.toNat = z_o ∧ (0 ≤ x_o ∧ x_o < (T_o : Int)) ∧ kSv w_o w2_o ad nr g_o T_o lts cs acs ams rel fnd Ns)) (fun Ex w2_o => (Ex = "java/lang/IndexOutOfBoundsException" ∧ ¬ (0 ≤ x_o ∧ x_o < (T_o : Int))) ∧ kSv w_o w2_o ad nr g_o T_o lts cs acs ams rel fnd Ns) := by
  refine kMX_of hl0 (by decide +kernel) (Nat.le_of_ble_eq_true rfl) ?_
  intro X_o hXl h_o hr
  subst hXl
  obtain ⟨⟨hpo, hgr, hwf, hts, hsc, hlo, hto, htx, htj⟩, hT⟩ := id hst
  obtain ⟨ls, Nz, cz, hs4, hs5, hs6⟩ := hsc
  obtain ⟨O_o, sk, hly, hOi⟩ := hlo
  obtain ⟨ht15, kn, ht16⟩ := hto
  have hnr := hgr.2.2.2
  have hT6 := hts.2
  show kG E_o X_o 2 0 0 w_o 0 [(0, .ref (ad 0)), (1, .int (iI x_o))] []
  refine k_aload_n h_o 0 dX6_length_0 rfl rfl ?_
  refine k_iload_n h_o 1 dX6_length_1 rfl rfl ?_
  refine k_callVX (As := [.int (iI x_o)]) (rest := []) h_o mX6_existingText kq_3_110 (c_X6_existingText hl0 hpo hts (by omega)) 0 hpo rfl rfl rfl (Nat.le_of_ble_eq_true rfl) ⟨rfl, rfl, ⟨(Nat.le_of_ble_eq_true rfl), (Nat.le_of_ble_eq_true rfl)⟩, ⟨(Nat.le_of_ble_eq_true rfl), (Nat.le_of_ble_eq_true rfl)⟩⟩ dX6_length_2 (fun Ex wx hx => k_out h_o hr (by obtain ⟨e1, e2, e3⟩ := hx; subst e3; exact ⟨⟨e1, e2⟩, hst, kEx.rfl⟩) (by decide) (by decide)) (kcR fun z2_o w2_o hp => ?_)
  obtain ⟨rfl, hxT, rfl⟩ := hp
  have htxx := htx x_o.toNat (by omega)
  have htjx := htj x_o.toNat (by omega)
  have hTx := hT x_o.toNat (by omega)
  have hcx := htjx.2.2.1
  refine k_get h_o (200 + 5 * x_o.toNat) kf_X6_117 htxx.1 rfl dX6_length_5 ?_
  refine k_get h_o (200 + 5 * x_o.toNat + 1) kf_X6_131 htxx.2.1.1 rfl dX6_length_8 ?_
  exact k_iret h_o hr.ret rfl (⟨_, rfl, rfl, hxT, hst, kEx.rfl⟩) (by omega) (by omega) dX6_length_11

set_option maxHeartbeats 400000 in
set_option maxRecDepth 100000 in
theorem c_X6_trees {E_o : kE} {l_o : Launch} (hl0 : l_o.stackTraces = false) {w_o : kW} {ad : Nat → Nat} {nr : Nat} {g_o : Nat → Nat → Int} {T_o : Nat} {lts : Nat → Nat → Int} {cs : Nat → Int} {acs : Nat → Nat → Int} {ams : Nat → Int} {rel fnd : Int} {Ns : Nat → Nat → Nat} {x_o : Int} (hst : kSu w_o ad nr g_o T_o lts cs acs ams rel fnd Ns) (hx : -2147483648 ≤ x_o ∧ x_o < 2147483648) : kMX E_o l_o yX6_trees (.code yX6_trees cX6_trees 2 (some .int) :: kAL) { frames := 7, cells := 1, slots := 6, locals := 103 } 1 6 [.ref (ad 0), .int (iI x_o)] w_o (pI (fun z_o w2_o => ((m_TT g_o nr (lts x_o.toNat) 10 0 (cs x_o.toNat - 1) : Nat) : Int) = z_o ∧ (0 ≤ x_o ∧ x_o < (T_o : Int)) ∧ kSv w_o w2_o ad nr g_o T_o lts cs acs ams rel fnd Ns)) (fun Ex w2_o => (Ex = "java/lang/IndexOutOfBoundsException" ∧ ¬ (0 ≤ x_o ∧ x_o < (T_o : Int))) ∧ kSv w_o w2_o ad nr g_o T_o lts cs acs ams rel fnd Ns) := by
  refine kMX_of hl0 (by decide +kernel) (Nat.le_of_ble_eq_true rfl) ?_
  intro X_o hXl h_o hr
  subst hXl
  obtain ⟨⟨hpo, hgr, hwf, hts, hsc, hlo, hto, htx, htj⟩, hT⟩ := id hst
  obtain ⟨ls, Nz, cz, hs4, hs5, hs6⟩ := hsc
  obtain ⟨O_o, sk, hly, hOi⟩ := hlo
  obtain ⟨ht15, kn, ht16⟩ := hto
  have hnr := hgr.2.2.2
  have hT6 := hts.2
  show kG E_o X_o 2 0 0 w_o 0 [(0, .ref (ad 0)), (1, .int (iI x_o))] []
  refine k_aload_n h_o 0 dX6_trees_0 rfl rfl ?_
  refine k_iload_n h_o 1 dX6_trees_1 rfl rfl ?_
  refine k_callVX (As := [.int (iI x_o)]) (rest := []) h_o mX6_existingText kq_3_110 (c_X6_existingText hl0 hpo hts (by omega)) 0 hpo rfl rfl rfl (Nat.le_of_ble_eq_true rfl) ⟨rfl, rfl, ⟨(Nat.le_of_ble_eq_true rfl), (Nat.le_of_ble_eq_true rfl)⟩, ⟨(Nat.le_of_ble_eq_true rfl), (Nat.le_of_ble_eq_true rfl)⟩⟩ dX6_trees_2 (fun Ex wx hx => k_out h_o hr (by obtain ⟨e1, e2, e3⟩ := hx; subst e3; exact ⟨⟨e1, e2⟩, hst, kEx.rfl⟩) (by decide) (by decide)) (kcR fun z2_o w2_o hp => ?_)
  obtain ⟨rfl, hxT, rfl⟩ := hp
  have htxx := htx x_o.toNat (by omega)
  have htjx := htj x_o.toNat (by omega)
  have hTx := hT x_o.toNat (by omega)
  have hcx := htjx.2.2.1
  refine k_get h_o (200 + 5 * x_o.toNat) kf_X6_117 htxx.1 rfl dX6_trees_5 ?_
  refine k_callV (As := []) (rest := []) h_o mX3_treesOfAll kq_1_173 (c_X3_treesOfAll hl0 htxx.2.1 htjx.1 htjx.2.1 hcx) (200 + 5 * x_o.toNat + 1) htxx.2.1.1 rfl rfl rfl (Nat.le_of_ble_eq_true rfl) ⟨rfl, rfl, ⟨(Nat.le_of_ble_eq_true rfl), (Nat.le_of_ble_eq_true rfl)⟩, ⟨(Nat.le_of_ble_eq_true rfl), (Nat.le_of_ble_eq_true rfl)⟩⟩ dX6_trees_8 (kcI fun z8_o w8_o hp => ?_)
  obtain ⟨rfl, rfl⟩ := hp
  refine k_top (z' := ((m_TT g_o nr (lts x_o.toNat) 10 0 (cs x_o.toNat - 1) : Nat) : Int)) (kTr_all hTx hcx) ?_
  exact k_iret h_o hr.ret rfl (⟨_, rfl, rfl, hxT, hst, kEx.rfl⟩) (by omega) (by omega) dX6_trees_11

set_option maxHeartbeats 400000 in
set_option maxRecDepth 100000 in
theorem c_X6_letterAt {E_o : kE} {l_o : Launch} (hl0 : l_o.stackTraces = false) {w_o : kW} {ad : Nat → Nat} {nr : Nat} {g_o : Nat → Nat → Int} {T_o : Nat} {lts : Nat → Nat → Int} {cs : Nat → Int} {acs : Nat → Nat → Int} {ams : Nat → Int} {rel fnd : Int} {Ns : Nat → Nat → Nat} {x_o p_o : Int} (hst : kSu w_o ad nr g_o T_o lts cs acs ams rel fnd Ns) (hx : -2147483648 ≤ x_o ∧ x_o < 2147483648) (hp : -2147483648 ≤ p_o ∧ p_o < 2147483648) : kMX E_o l_o yX6_letterAt (.code yX6_letterAt cX6_letterAt 4 (some .int) :: kAL) { frames := 7, cells := 2, slots := 12, locals := 103 } 2 12 [.ref (ad 0), .int (iI x_o), .int (iI p_o)] w_o (pI (fun z_o w2_o => lts x_o.toNat p_o.toNat = z_o ∧ ((0 ≤ x_o ∧ x_o < (T_o : Int)) ∧ 0 ≤ p_o ∧ p_o < cs x_o.toNat) ∧ kSv w_o w2_o ad nr g_o T_o lts cs acs ams rel fnd Ns)) (fun Ex w2_o => (Ex = "java/lang/IndexOutOfBoundsException" ∧ ¬ ((0 ≤ x_o ∧ x_o < (T_o : Int)) ∧ 0 ≤ p_o ∧ p_o < cs x_o.toNat)) ∧ kSv w_o w2_o ad nr g_o T_o lts cs acs ams rel fnd Ns) := by
  refine kMX_of hl0 (by decide +kernel) (Nat.le_of_ble_eq_true rfl) ?_
  intro X_o hXl h_o hr
  subst hXl
  obtain ⟨⟨hpo, hgr, hwf, hts, hsc, hlo, hto, htx, htj⟩, hT⟩ := id hst
  obtain ⟨ls, Nz, cz, hs4, hs5, hs6⟩ := hsc
  obtain ⟨O_o, sk, hly, hOi⟩ := hlo
  obtain ⟨ht15, kn, ht16⟩ := hto
  have hnr := hgr.2.2.2
  have hT6 := hts.2
  show kG E_o X_o 4 0 0 w_o 0 [(0, .ref (ad 0)), (1, .int (iI x_o)), (2, .int (iI p_o))] []
  refine k_aload_n h_o 0 dX6_letterAt_0 rfl rfl ?_
  refine k_iload_n h_o 1 dX6_letterAt_1 rfl rfl ?_
  refine k_callVX (As := [.int (iI x_o)]) (rest := []) h_o mX6_existingText kq_3_110 (c_X6_existingText hl0 hpo hts (by omega)) 0 hpo rfl rfl rfl (Nat.le_of_ble_eq_true rfl) ⟨rfl, rfl, ⟨(Nat.le_of_ble_eq_true rfl), (Nat.le_of_ble_eq_true rfl)⟩, ⟨(Nat.le_of_ble_eq_true rfl), (Nat.le_of_ble_eq_true rfl)⟩⟩ dX6_letterAt_2 (fun Ex wx hx => k_out h_o hr (by obtain ⟨e1, e2, e3⟩ := hx; subst e3; exact ⟨⟨e1, fun q_o => e2 q_o.1⟩, hst, kEx.rfl⟩) (by decide) (by decide)) (kcR fun z2_o w2_o hp => ?_)
  obtain ⟨rfl, hxT, rfl⟩ := hp
  have htxx := htx x_o.toNat (by omega)
  have htjx := htj x_o.toNat (by omega)
  have hTx := hT x_o.toNat (by omega)
  have hcx := htjx.2.2.1
  refine k_get h_o (200 + 5 * x_o.toNat) kf_X6_117 htxx.1 rfl dX6_letterAt_5 ?_
  refine k_astore_n (lv' := [(3, .ref (ad (200 + 5 * x_o.toNat + 1))), (0, .ref (ad 0)), (1, .int (iI x_o)), (2, .int (iI p_o))]) h_o dX6_letterAt_8 rfl (by decide) rfl ?_
  refine k_aload_n h_o 0 dX6_letterAt_9 rfl rfl ?_
  refine k_iload_n h_o 3 dX6_letterAt_10 rfl rfl ?_
  refine k_callSX (As := [.ref (ad (200 + 5 * x_o.toNat + 1)), .int (iI p_o)]) (rest := []) h_o mX6_requirePlace kq_3_136 (c_X6_requirePlace hl0 htxx.2.1 (by omega) (by omega)) rfl rfl (Nat.le_of_ble_eq_true rfl) ⟨rfl, rfl, ⟨(Nat.le_of_ble_eq_true rfl), (Nat.le_of_ble_eq_true rfl)⟩, ⟨(Nat.le_of_ble_eq_true rfl), (Nat.le_of_ble_eq_true rfl)⟩⟩ dX6_letterAt_11 (fun Ex wx hx => k_out h_o hr (by obtain ⟨e1, e2, e3⟩ := hx; subst e3; exact ⟨⟨e1, fun q_o => e2 q_o.2⟩, hst, kEx.rfl⟩) (by decide) (by decide)) (kcV fun w11_o hp => ?_)
  obtain ⟨hP11, rfl⟩ := hp
  refine k_aload_n h_o 0 dX6_letterAt_14 rfl rfl ?_
  refine k_iload_n h_o 3 dX6_letterAt_15 rfl rfl ?_
  refine k_callV (As := [.int (iI p_o)]) (rest := []) h_o mX3_letterOf kq_3_154 (c_X3_letterOf hl0 htxx.2.1 (by omega)) (200 + 5 * x_o.toNat + 1) htxx.2.1.1 rfl rfl rfl (Nat.le_of_ble_eq_true rfl) ⟨rfl, rfl, ⟨(Nat.le_of_ble_eq_true rfl), (Nat.le_of_ble_eq_true rfl)⟩, ⟨(Nat.le_of_ble_eq_true rfl), (Nat.le_of_ble_eq_true rfl)⟩⟩ dX6_letterAt_16 (kcI fun z16_o w16_o hp => ?_)
  obtain ⟨rfl, rfl⟩ := hp
  exact k_iret h_o hr.ret rfl (⟨_, rfl, rfl, ⟨hxT, hP11⟩, hst, kEx.rfl⟩) (by omega) (by omega) dX6_letterAt_19

set_option maxHeartbeats 400000 in
set_option maxRecDepth 100000 in
theorem c_X6_work {E_o : kE} {l_o : Launch} (hl0 : l_o.stackTraces = false) {w_o : kW} {ad : Nat → Nat} {nr : Nat} {g_o : Nat → Nat → Int} {T_o : Nat} {lts : Nat → Nat → Int} {cs : Nat → Int} {acs : Nat → Nat → Int} {ams : Nat → Int} {rel fnd : Int} {Ns : Nat → Nat → Nat}  (hst : kSu w_o ad nr g_o T_o lts cs acs ams rel fnd Ns)  : kM E_o l_o yX6_work (.code yX6_work cX6_work 1 (some .long) :: kAL) { frames := 0, cells := 0, slots := 0, locals := 0 } 0 0 [.ref (ad 0)] w_o (pL (fun z_o w2_o => fnd = z_o ∧ kSv w_o w2_o ad nr g_o T_o lts cs acs ams rel fnd Ns)) := by
  refine kM_of hl0 (by decide +kernel) (Nat.le_of_ble_eq_true rfl) ?_
  intro X_o hXl h_o hr hin
  subst hXl
  obtain ⟨⟨hpo, hgr, hwf, hts, hsc, hlo, hto, htx, htj⟩, hT⟩ := id hst
  obtain ⟨ls, Nz, cz, hs4, hs5, hs6⟩ := hsc
  obtain ⟨O_o, sk, hly, hOi⟩ := hlo
  obtain ⟨ht15, kn, ht16⟩ := hto
  have hnr := hgr.2.2.2
  have hT6 := hts.2
  show kG E_o X_o 1 0 0 w_o 0 [(0, .ref (ad 0))] []
  refine k_aload_n h_o 0 dX6_work_0 rfl rfl ?_
  refine k_get h_o 0 kf_X6_50 hpo rfl dX6_work_1 ?_
  exact k_lret h_o hr (⟨_, rfl, rfl, hst, kEx.rfl⟩) (by omega) (by omega) dX6_work_4

set_option maxHeartbeats 400000 in
set_option maxRecDepth 100000 in
theorem c_X6_treesOver {E_o : kE} {l_o : Launch} (hl0 : l_o.stackTraces = false) {w_o : kW} {ad : Nat → Nat} {nr : Nat} {g_o : Nat → Nat → Int} {T_o : Nat} {lts : Nat → Nat → Int} {cs : Nat → Int} {acs : Nat → Nat → Int} {ams : Nat → Int} {rel fnd : Int} {Ns : Nat → Nat → Nat} {x_o s_o i_o j_o : Int} (hst : kSu w_o ad nr g_o T_o lts cs acs ams rel fnd Ns) (hx : -2147483648 ≤ x_o ∧ x_o < 2147483648) (hs : -2147483648 ≤ s_o ∧ s_o < 2147483648) (hi_o : -2147483648 ≤ i_o ∧ i_o < 2147483648) (hj : -2147483648 ≤ j_o ∧ j_o < 2147483648) : kMX E_o l_o yX6_treesOver (.code yX6_treesOver cX6_treesOver 6 (some .int) :: kAL) { frames := 7, cells := 4, slots := 24, locals := 103 } 4 24 [.ref (ad 0), .int (iI x_o), .int (iI s_o), .int (iI i_o), .int (iI j_o)] w_o (pI (fun z_o w2_o => ((m_TT g_o nr (lts x_o.toNat) s_o i_o j_o : Nat) : Int) = z_o ∧ ((0 ≤ x_o ∧ x_o < (T_o : Int)) ∧ 0 ≤ i_o ∧ i_o < cs x_o.toNat) ∧ ((0 ≤ x_o ∧ x_o < (T_o : Int)) ∧ 0 ≤ j_o ∧ j_o < cs x_o.toNat) ∧ m_isN s_o ∧ i_o ≤ j_o ∧ kSv w_o w2_o ad nr g_o T_o lts cs acs ams rel fnd Ns)) (fun Ex w2_o => ((Ex = "java/lang/IndexOutOfBoundsException" ∧ ¬ (((0 ≤ x_o ∧ x_o < (T_o : Int)) ∧ 0 ≤ i_o ∧ i_o < cs x_o.toNat) ∧ ((0 ≤ x_o ∧ x_o < (T_o : Int)) ∧ 0 ≤ j_o ∧ j_o < cs x_o.toNat))) ∨ (Ex = "java/lang/IllegalArgumentException" ∧ (((0 ≤ x_o ∧ x_o < (T_o : Int)) ∧ 0 ≤ i_o ∧ i_o < cs x_o.toNat) ∧ ((0 ≤ x_o ∧ x_o < (T_o : Int)) ∧ 0 ≤ j_o ∧ j_o < cs x_o.toNat)) ∧ ¬ (m_isN s_o ∧ i_o ≤ j_o))) ∧ kSv w_o w2_o ad nr g_o T_o lts cs acs ams rel fnd Ns) := by
  refine kMX_of hl0 (by decide +kernel) (Nat.le_of_ble_eq_true rfl) ?_
  intro X_o hXl h_o hr
  subst hXl
  obtain ⟨⟨hpo, hgr, hwf, hts, hsc, hlo, hto, htx, htj⟩, hT⟩ := id hst
  obtain ⟨ls, Nz, cz, hs4, hs5, hs6⟩ := hsc
  obtain ⟨O_o, sk, hly, hOi⟩ := hlo
  obtain ⟨ht15, kn, ht16⟩ := hto
  have hnr := hgr.2.2.2
  have hT6 := hts.2
  show kG E_o X_o 6 0 0 w_o 0 [(0, .ref (ad 0)), (1, .int (iI x_o)), (2, .int (iI s_o)), (3, .int (iI i_o)), (4, .int (iI j_o))] []
  refine k_aload_n h_o 0 dX6_treesOver_0 rfl rfl ?_
  refine k_iload_n h_o 1 dX6_treesOver_1 rfl rfl ?_
  refine k_callVX (As := [.int (iI x_o)]) (rest := []) h_o mX6_existingText kq_3_110 (c_X6_existingText hl0 hpo hts (by omega)) 0 hpo rfl rfl rfl (Nat.le_of_ble_eq_true rfl) ⟨rfl, rfl, ⟨(Nat.le_of_ble_eq_true rfl), (Nat.le_of_ble_eq_true rfl)⟩, ⟨(Nat.le_of_ble_eq_true rfl), (Nat.le_of_ble_eq_true rfl)⟩⟩ dX6_treesOver_2 (fun Ex wx hx => k_out h_o hr (by obtain ⟨e1, e2, e3⟩ := hx; subst e3; exact ⟨Or.inl ⟨e1, fun q_o => e2 q_o.1.1⟩, hst, kEx.rfl⟩) (by decide) (by decide)) (kcR fun z2_o w2_o hp => ?_)
  obtain ⟨rfl, hxT, rfl⟩ := hp
  have htxx := htx x_o.toNat (by omega)
  have htjx := htj x_o.toNat (by omega)
  have hTx := hT x_o.toNat (by omega)
  have hcx := htjx.2.2.1
  refine k_get h_o (200 + 5 * x_o.toNat) kf_X6_117 htxx.1 rfl dX6_treesOver_5 ?_
  refine k_astore (lv' := [(5, .ref (ad (200 + 5 * x_o.toNat + 1))), (0, .ref (ad 0)), (1, .int (iI x_o)), (2, .int (iI s_o)), (3, .int (iI i_o)), (4, .int (iI j_o))]) h_o dX6_treesOver_8 (by decide) rfl ?_
  refine k_aload h_o 0 dX6_treesOver_10 rfl ?_
  refine k_iload_n h_o 4 dX6_treesOver_12 rfl rfl ?_
  refine k_callSX (As := [.ref (ad (200 + 5 * x_o.toNat + 1)), .int (iI i_o)]) (rest := []) h_o mX6_requirePlace kq_3_136 (c_X6_requirePlace hl0 htxx.2.1 (by omega) (by omega)) rfl rfl (Nat.le_of_ble_eq_true rfl) ⟨rfl, rfl, ⟨(Nat.le_of_ble_eq_true rfl), (Nat.le_of_ble_eq_true rfl)⟩, ⟨(Nat.le_of_ble_eq_true rfl), (Nat.le_of_ble_eq_true rfl)⟩⟩ dX6_treesOver_13 (fun Ex wx hx => k_out h_o hr (by obtain ⟨e1, e2, e3⟩ := hx; subst e3; exact ⟨Or.inl ⟨e1, fun q_o => e2 q_o.1.2⟩, hst, kEx.rfl⟩) (by decide) (by decide)) (kcV fun w13_o hp => ?_)
  obtain ⟨hP13, rfl⟩ := hp
  refine k_aload h_o 0 dX6_treesOver_16 rfl ?_
  refine k_iload h_o 5 dX6_treesOver_18 rfl ?_
  refine k_callSX (As := [.ref (ad (200 + 5 * x_o.toNat + 1)), .int (iI j_o)]) (rest := []) h_o mX6_requirePlace kq_3_136 (c_X6_requirePlace hl0 htxx.2.1 (by omega) (by omega)) rfl rfl (Nat.le_of_ble_eq_true rfl) ⟨rfl, rfl, ⟨(Nat.le_of_ble_eq_true rfl), (Nat.le_of_ble_eq_true rfl)⟩, ⟨(Nat.le_of_ble_eq_true rfl), (Nat.le_of_ble_eq_true rfl)⟩⟩ dX6_treesOver_20 (fun Ex wx hx => k_out h_o hr (by obtain ⟨e1, e2, e3⟩ := hx; subst e3; exact ⟨Or.inl ⟨e1, fun q_o => e2 q_o.2.2⟩, hst, kEx.rfl⟩) (by decide) (by decide)) (kcV fun w20_o hp => ?_)
  obtain ⟨hP20, rfl⟩ := hp
  refine k_iload_n h_o 3 dX6_treesOver_23 rfl rfl ?_
  refine k_callS (As := [.int (iI s_o)]) (rest := []) h_o mX6_isName kq_2_57 (c_X6_isName hl0 (by omega)) rfl rfl (Nat.le_of_ble_eq_true rfl) ⟨rfl, rfl, ⟨(Nat.le_of_ble_eq_true rfl), (Nat.le_of_ble_eq_true rfl)⟩, ⟨(Nat.le_of_ble_eq_true rfl), (Nat.le_of_ble_eq_true rfl)⟩⟩ dX6_treesOver_24 (kcI fun z24_o w24_o hp => ?_)
  obtain ⟨rfl, rfl⟩ := hp
  refine k_ifBeq h_o 36 dX6_treesOver_27 (by decide) (fun h27_o => ?_) (fun h27_o => ?_)
  · exact k_throw0 (names := ["java/lang/RuntimeException", "java/lang/Exception"]) h_o hr (by decide +kernel) (by decide +kernel) kq_2_64 kq_1_10 kx1_IAE kx2_IAE kx3_IAE dX6_treesOver_36 dX6_treesOver_39 dX6_treesOver_40 dX6_treesOver_43 ⟨by decide, by decide, by decide, by decide⟩ (⟨Or.inr ⟨rfl, ⟨⟨hxT, hP13⟩, hxT, hP20⟩, (by omega)⟩, hst, kEx.rfl⟩) (by decide) (by decide)
  · refine k_iload h_o 5 dX6_treesOver_30 rfl ?_
    refine k_iload_n h_o 4 dX6_treesOver_32 rfl rfl ?_
    refine k_icmp_ge h_o 44 (by omega) (by omega) dX6_treesOver_33 (by decide) (fun h33_o => ?_) (fun h33_o => ?_)
    · refine k_aload h_o 0 dX6_treesOver_44 rfl ?_
      refine k_iload_n h_o 3 dX6_treesOver_46 rfl rfl ?_
      refine k_iload_n h_o 4 dX6_treesOver_47 rfl rfl ?_
      refine k_iload h_o 5 dX6_treesOver_48 rfl ?_
      refine k_callV (As := [.int (iI s_o), .int (iI i_o), .int (iI j_o)]) (rest := []) h_o mX3_treesOf kq_3_192 (c_X3_treesOf hl0 htxx.2.1 htjx.1 htjx.2.1 (by omega) (by omega) (by omega)) (200 + 5 * x_o.toNat + 1) htxx.2.1.1 rfl rfl rfl (Nat.le_of_ble_eq_true rfl) ⟨rfl, rfl, ⟨(Nat.le_of_ble_eq_true rfl), (Nat.le_of_ble_eq_true rfl)⟩, ⟨(Nat.le_of_ble_eq_true rfl), (Nat.le_of_ble_eq_true rfl)⟩⟩ dX6_treesOver_50 (kcI fun z50_o w50_o hp => ?_)
      obtain ⟨rfl, rfl⟩ := hp
      refine k_top (z' := ((m_TT g_o nr (lts x_o.toNat) s_o i_o j_o : Nat) : Int)) (kTr_over hTx (by omega) (by omega) (by omega) (by omega)) ?_
      exact k_iret h_o hr.ret rfl (⟨_, rfl, rfl, ⟨hxT, hP13⟩, ⟨hxT, hP20⟩, h27_o, h33_o, hst, kEx.rfl⟩) (by omega) (by omega) dX6_treesOver_53
    · exact k_throw0 (names := ["java/lang/RuntimeException", "java/lang/Exception"]) h_o hr (by decide +kernel) (by decide +kernel) kq_2_64 kq_1_10 kx1_IAE kx2_IAE kx3_IAE dX6_treesOver_36 dX6_treesOver_39 dX6_treesOver_40 dX6_treesOver_43 ⟨by decide, by decide, by decide, by decide⟩ (⟨Or.inr ⟨rfl, ⟨⟨hxT, hP13⟩, hxT, hP20⟩, (by omega)⟩, hst, kEx.rfl⟩) (by decide) (by decide)
