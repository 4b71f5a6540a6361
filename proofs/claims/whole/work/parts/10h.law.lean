set_option maxHeartbeats 4000000 in
set_option maxRecDepth 100000 in
theorem law_size {E_o : kE} {X_o : kX} {k_o n_o b_o L_o : Nat} {xs : Nat → Int32} (hl0 : (kXl X_o).stackTraces = false) (h_o : kOk E_o X_o code RL 9 room_1) (hNc : kNc (kXs X_o)) (hsr : kSr E_o X_o b_o L_o xs) (hL : L_o ≤ 2560) {i_o : Int} (hi_o : 0 ≤ i_o ∧ i_o + 5 ≤ (L_o : Int)) (hk : k_o + 7 ≤ 603072) (hn : n_o + 630 ≤ 7215210) {w_o : kW} {ad : Nat → Nat} {nr : Nat} {g_o : Nat → Nat → Int} {T_o : Nat} {lts : Nat → Nat → Int} {cs : Nat → Int} {acs : Nat → Nat → Int} {ams : Nat → Int} {rel fnd : Int} {Ns : Nat → Nat → Nat} {bd : Nat → Nat} {th : Int} {aO aD : Nat} {fO : Nat → Int} {fD : Nat → UInt64} (hO : w_o 17 = some (aO, al 1 fO)) (hD : w_o 18 = some (aD, kDl 1 fD)) (hst : kSu w_o ad nr g_o T_o lts cs acs ams rel fnd Ns) (hmu : kMu w_o bd nr g_o T_o lts cs acs ams rel fnd th) (kk : ∀ w2_o : kW, kLI w2_o (ad 0) (bd 25) aO aD → kG E_o X_o 9 (k_o + 7) (n_o + 630) w2_o 1847 [(0, .ref b_o), (1, .ref (ad 0)), (2, .ref (bd 25)), (3, .ref aO), (4, .ref aD), (5, .int (iI i_o))] []) : kG E_o X_o 9 k_o n_o w_o 1013 [(0, .ref b_o), (1, .ref (ad 0)), (2, .ref (bd 25)), (3, .ref aO), (4, .ref aD), (5, .int (iI i_o))] [] := by
  obtain ⟨x1, hx1⟩ : ∃ z_o, z_o = (xs (i_o + 1).toNat).toInt := ⟨_, rfl⟩
  have hr1 : -2147483648 ≤ x1 ∧ x1 < 2147483648 := by rw [hx1]; exact iI_rg _
  obtain ⟨x2, hx2⟩ : ∃ z_o, z_o = (xs (i_o + 2).toNat).toInt := ⟨_, rfl⟩
  have hr2 : -2147483648 ≤ x2 ∧ x2 < 2147483648 := by rw [hx2]; exact iI_rg _
  obtain ⟨x3, hx3⟩ : ∃ z_o, z_o = (xs (i_o + 3).toNat).toInt := ⟨_, rfl⟩
  have hr3 : -2147483648 ≤ x3 ∧ x3 < 2147483648 := by rw [hx3]; exact iI_rg _
  obtain ⟨x4, hx4⟩ : ∃ z_o, z_o = (xs (i_o + 4).toNat).toInt := ⟨_, rfl⟩
  have hr4 : -2147483648 ≤ x4 ∧ x4 < 2147483648 := by rw [hx4]; exact iI_rg _
  obtain ⟨fs19, h19_o⟩ := hmu.obj
  refine k_aload_n h_o 1 dL_law_1013 rfl rfl ?_
  refine k_aload_n h_o 0 dL_law_1014 rfl rfl ?_
  refine k_iload h_o 5 dL_law_1015 rfl ?_
  refine k_iconst h_o dL_law_1017 ?_
  refine k_iadd h_o dL_law_1018 ?_
  refine k_sld h_o hsr (x' := x1) (by omega) (by omega) hx1 dL_law_1019 ?_
  refine k_aload_n h_o 3 dL_law_1020 rfl rfl ?_
  refine k_callSWN (As := [.ref (ad 0), .int (iI x1), .ref aO]) (rest := []) h_o hNc mL_size kq_3_193 (c_L_size hl0 hst hr1 hO) rfl rfl (Nat.le_of_ble_eq_true rfl) ⟨rfl, rfl, ⟨(Nat.le_of_ble_eq_true rfl), (Nat.le_of_ble_eq_true rfl)⟩, ⟨by show _ ≤ 603072; omega, by show _ ≤ 7215210; omega⟩⟩ dL_law_1021 (kcI fun zH w1_o hp => ?_)
  rcases hp with ⟨rfl, z1_o, rfl, e1, hO1, hexP, hsu1⟩ | ⟨rfl, e1, hO1, hexP, hsu1⟩
  · have hmu1 := hmu.pl (hexP.sub kP7_Pw)
    obtain ⟨fs19P, h19P⟩ := hmu1.obj
    refine k_istore (lv' := [(6, .int (iI 0)), (0, .ref b_o), (1, .ref (ad 0)), (2, .ref (bd 25)), (3, .ref aO), (4, .ref aD), (5, .int (iI i_o))]) h_o dL_law_1024 (by decide) rfl ?_
    refine k_aload_n h_o 3 dL_law_1026 rfl rfl ?_
    refine k_aload_n h_o 1 dL_law_1027 rfl rfl ?_
    refine k_iload h_o 6 dL_law_1028 rfl ?_
    refine k_iconst h_o dL_law_1030 ?_
    refine k_iadd h_o dL_law_1031 ?_
    refine k_sld h_o hsr (x' := x1) (by omega) (by omega) hx1 dL_law_1032 ?_
    refine k_callV (As := [.int (iI x1)]) (rest := []) h_o mX7_size kq_5_79 (c_X7_size hl0 hmu1 hr1) 19 h19P rfl rfl rfl (Nat.le_of_ble_eq_true rfl) ⟨rfl, rfl, ⟨(Nat.le_of_ble_eq_true rfl), (Nat.le_of_ble_eq_true rfl)⟩, ⟨by show _ ≤ 603072; omega, by show _ ≤ 7215210; omega⟩⟩ dL_law_1033 (kcI fun zM w2_o hp => ?_)
    rcases hp with ⟨q1, rfl, hmu2, hexM⟩ | ⟨q1, hmu2, hexM⟩
    · obtain ⟨fs19M, h19M⟩ := hmu2.obj
      refine k_istore (lv' := [(7, .int (iI ((m_lay g_o nr (lts x1.toNat) (cs x1.toNat) kO0).1))), (6, .int (iI 0)), (0, .ref b_o), (1, .ref (ad 0)), (2, .ref (bd 25)), (3, .ref aO), (4, .ref aD), (5, .int (iI i_o))]) h_o dL_law_1036 (by decide) rfl ?_
      refine k_aload_n h_o 4 dL_law_1038 rfl rfl ?_
      refine k_callV (As := []) (rest := []) h_o mX7_thrown kq_4_203 (c_X7_thrown hl0 hmu2) 19 h19M rfl rfl rfl (Nat.le_of_ble_eq_true rfl) ⟨rfl, rfl, ⟨(Nat.le_of_ble_eq_true rfl), (Nat.le_of_ble_eq_true rfl)⟩, ⟨by show _ ≤ 603072; omega, by show _ ≤ 7215210; omega⟩⟩ dL_law_1039 (kcI fun z1039_o w3_o hp => ?_)
      obtain ⟨rfl, rfl⟩ := hp
      refine k_iload h_o 1 dL_law_1042 rfl ?_
      refine k_icmpS h_o 1049 dL_law_1044 (by decide) ?_
      refine k_iload h_o 1 dL_law_1049 rfl ?_
      refine k_ifne h_o 1066 (by decide) dL_law_1051 (by decide) (fun h1051_o => ?_) (fun h1051_o => ?_)
      · exfalso; omega
      · refine k_aload_n h_o 5 dL_law_1054 rfl rfl ?_
        refine k_iconst h_o dL_law_1055 ?_
        refine k_lald h_o 17 ((hexM 17 (by show ¬ (19 ≤ 17 ∧ 17 ≤ 44); omega)).trans hO1) (by decide) (by decide) dL_law_1056 ?_
        refine k_topL (z' := m_w ((m_lay g_o nr (lts x1.toNat) (cs x1.toNat) kO0).1)) kup_eq ?_
        refine k_iload h_o 0 dL_law_1057 rfl ?_
        refine k_i2lW h_o dL_law_1059 ?_
        refine k_lcmpS h_o dL_law_1060 ?_
        refine k_ifeq h_o 1066 (by decide) dL_law_1061 (by decide) (fun h1061_o => ?_) (fun h1061_o => ?_)
        · refine k_goto h_o 1847 dL_law_1066 (by decide) ?_
          refine k_sub (lv' := [(0, .ref b_o), (1, .ref (ad 0)), (2, .ref (bd 25)), (3, .ref aO), (4, .ref aD), (5, .int (iI i_o))]) [2, 3, 4, 5, 6, 7] rfl ?_
          refine k_wd (k2 := k_o + 7) (n2 := n_o + 630) (by omega) (by omega) ?_
          exact kk _ ⟨_, bd, _, _, _, _, _, _, _, _, _, _, _, _, _, rfl, rfl, ((hexM 17 (by show ¬ (19 ≤ 17 ∧ 17 ≤ 44); omega)).trans hO1), ((hexM 18 (by show ¬ (19 ≤ 18 ∧ 18 ≤ 44); omega)).trans ((hexP 18 (by show ¬ (18 ≤ 17 ∨ 100 ≤ 18); omega)).trans hD)), (hsu1.ox (hexM.sub kMk_Ox)), hmu2⟩
        · exfalso; omega
    · exfalso; (first | omega | exact absurd q1 e1 | exact absurd e1 q1 | exact absurd q1.1 e1 | exact absurd e1 q1.1 | exact absurd e1.1 q1 | exact absurd q1 e1.1 | exact absurd e1.1 q1.1 | exact absurd q1.1 e1.1)
  · have hmu1 := hmu.pl (hexP.sub kP7_Pw)
    obtain ⟨fs19P, h19P⟩ := hmu1.obj
    refine k_istore (lv' := [(6, .int (iI 1)), (0, .ref b_o), (1, .ref (ad 0)), (2, .ref (bd 25)), (3, .ref aO), (4, .ref aD), (5, .int (iI i_o))]) h_o dL_law_1024 (by decide) rfl ?_
    refine k_aload_n h_o 3 dL_law_1026 rfl rfl ?_
    refine k_aload_n h_o 1 dL_law_1027 rfl rfl ?_
    refine k_iload h_o 6 dL_law_1028 rfl ?_
    refine k_iconst h_o dL_law_1030 ?_
    refine k_iadd h_o dL_law_1031 ?_
    refine k_sld h_o hsr (x' := x1) (by omega) (by omega) hx1 dL_law_1032 ?_
    refine k_callV (As := [.int (iI x1)]) (rest := []) h_o mX7_size kq_5_79 (c_X7_size hl0 hmu1 hr1) 19 h19P rfl rfl rfl (Nat.le_of_ble_eq_true rfl) ⟨rfl, rfl, ⟨(Nat.le_of_ble_eq_true rfl), (Nat.le_of_ble_eq_true rfl)⟩, ⟨by show _ ≤ 603072; omega, by show _ ≤ 7215210; omega⟩⟩ dL_law_1033 (kcI fun zM w2_o hp => ?_)
    rcases hp with ⟨q1, rfl, hmu2, hexM⟩ | ⟨q1, hmu2, hexM⟩
    · exfalso; (first | omega | exact absurd q1 e1 | exact absurd e1 q1 | exact absurd q1.1 e1 | exact absurd e1 q1.1 | exact absurd e1.1 q1 | exact absurd q1 e1.1 | exact absurd e1.1 q1.1 | exact absurd q1.1 e1.1)
    · obtain ⟨fs19M, h19M⟩ := hmu2.obj
      refine k_istore (lv' := [(7, .int (iI zM)), (6, .int (iI 1)), (0, .ref b_o), (1, .ref (ad 0)), (2, .ref (bd 25)), (3, .ref aO), (4, .ref aD), (5, .int (iI i_o))]) h_o dL_law_1036 (by decide) rfl ?_
      refine k_aload_n h_o 4 dL_law_1038 rfl rfl ?_
      refine k_callV (As := []) (rest := []) h_o mX7_thrown kq_4_203 (c_X7_thrown hl0 hmu2) 19 h19M rfl rfl rfl (Nat.le_of_ble_eq_true rfl) ⟨rfl, rfl, ⟨(Nat.le_of_ble_eq_true rfl), (Nat.le_of_ble_eq_true rfl)⟩, ⟨by show _ ≤ 603072; omega, by show _ ≤ 7215210; omega⟩⟩ dL_law_1039 (kcI fun z1039_o w3_o hp => ?_)
      obtain ⟨rfl, rfl⟩ := hp
      refine k_iload h_o 1 dL_law_1042 rfl ?_
      refine k_icmpS h_o 1049 dL_law_1044 (by decide) ?_
      refine k_iload h_o 1 dL_law_1049 rfl ?_
      refine k_ifne h_o 1066 (by decide) dL_law_1051 (by decide) (fun h1051_o => ?_) (fun h1051_o => ?_)
      · refine k_goto h_o 1847 dL_law_1066 (by decide) ?_
        refine k_sub (lv' := [(0, .ref b_o), (1, .ref (ad 0)), (2, .ref (bd 25)), (3, .ref aO), (4, .ref aD), (5, .int (iI i_o))]) [2, 3, 4, 5, 6, 7] rfl ?_
        refine k_wd (k2 := k_o + 7) (n2 := n_o + 630) (by omega) (by omega) ?_
        exact kk _ ⟨_, bd, _, _, _, _, _, _, _, _, _, _, _, _, _, rfl, rfl, ((hexM 17 (by show ¬ (19 ≤ 17 ∧ 17 ≤ 44); omega)).trans hO1), ((hexM 18 (by show ¬ (19 ≤ 18 ∧ 18 ≤ 44); omega)).trans ((hexP 18 (by show ¬ (18 ≤ 17 ∨ 100 ≤ 18); omega)).trans hD)), (hsu1.ox (hexM.sub kMk_Ox)), hmu2⟩
      · exfalso; omega

set_option maxHeartbeats 4000000 in
set_option maxRecDepth 100000 in
theorem law_ruleAt {E_o : kE} {X_o : kX} {k_o n_o b_o L_o : Nat} {xs : Nat → Int32} (hl0 : (kXl X_o).stackTraces = false) (h_o : kOk E_o X_o code RL 9 room_1) (hNc : kNc (kXs X_o)) (hsr : kSr E_o X_o b_o L_o xs) (hL : L_o ≤ 2560) {i_o : Int} (hi_o : 0 ≤ i_o ∧ i_o + 5 ≤ (L_o : Int)) (hk : k_o + 7 ≤ 603072) (hn : n_o + 630 ≤ 7215210) {w_o : kW} {ad : Nat → Nat} {nr : Nat} {g_o : Nat → Nat → Int} {T_o : Nat} {lts : Nat → Nat → Int} {cs : Nat → Int} {acs : Nat → Nat → Int} {ams : Nat → Int} {rel fnd : Int} {Ns : Nat → Nat → Nat} {bd : Nat → Nat} {th : Int} {aO aD : Nat} {fO : Nat → Int} {fD : Nat → UInt64} (hO : w_o 17 = some (aO, al 1 fO)) (hD : w_o 18 = some (aD, kDl 1 fD)) (hst : kSu w_o ad nr g_o T_o lts cs acs ams rel fnd Ns) (hmu : kMu w_o bd nr g_o T_o lts cs acs ams rel fnd th) (kk : ∀ w2_o : kW, kLI w2_o (ad 0) (bd 25) aO aD → kG E_o X_o 9 (k_o + 7) (n_o + 630) w2_o 1847 [(0, .ref b_o), (1, .ref (ad 0)), (2, .ref (bd 25)), (3, .ref aO), (4, .ref aD), (5, .int (iI i_o))] []) : kG E_o X_o 9 k_o n_o w_o 1069 [(0, .ref b_o), (1, .ref (ad 0)), (2, .ref (bd 25)), (3, .ref aO), (4, .ref aD), (5, .int (iI i_o))] [] := by
  obtain ⟨x1, hx1⟩ : ∃ z_o, z_o = (xs (i_o + 1).toNat).toInt := ⟨_, rfl⟩
  have hr1 : -2147483648 ≤ x1 ∧ x1 < 2147483648 := by rw [hx1]; exact iI_rg _
  obtain ⟨x2, hx2⟩ : ∃ z_o, z_o = (xs (i_o + 2).toNat).toInt := ⟨_, rfl⟩
  have hr2 : -2147483648 ≤ x2 ∧ x2 < 2147483648 := by rw [hx2]; exact iI_rg _
  obtain ⟨x3, hx3⟩ : ∃ z_o, z_o = (xs (i_o + 3).toNat).toInt := ⟨_, rfl⟩
  have hr3 : -2147483648 ≤ x3 ∧ x3 < 2147483648 := by rw [hx3]; exact iI_rg _
  obtain ⟨x4, hx4⟩ : ∃ z_o, z_o = (xs (i_o + 4).toNat).toInt := ⟨_, rfl⟩
  have hr4 : -2147483648 ≤ x4 ∧ x4 < 2147483648 := by rw [hx4]; exact iI_rg _
  obtain ⟨fs19, h19_o⟩ := hmu.obj
  refine k_aload_n h_o 1 dL_law_1069 rfl rfl ?_
  refine k_aload_n h_o 0 dL_law_1070 rfl rfl ?_
  refine k_iload h_o 5 dL_law_1071 rfl ?_
  refine k_iconst h_o dL_law_1073 ?_
  refine k_iadd h_o dL_law_1074 ?_
  refine k_sld h_o hsr (x' := x1) (by omega) (by omega) hx1 dL_law_1075 ?_
  refine k_aload_n h_o 0 dL_law_1076 rfl rfl ?_
  refine k_iload h_o 5 dL_law_1077 rfl ?_
  refine k_iconst h_o dL_law_1079 ?_
  refine k_iadd h_o dL_law_1080 ?_
  refine k_sld h_o hsr (x' := x2) (by omega) (by omega) hx2 dL_law_1081 ?_
  refine k_aload_n h_o 3 dL_law_1082 rfl rfl ?_
  refine k_callSWN (As := [.ref (ad 0), .int (iI x1), .int (iI x2), .ref aO]) (rest := []) h_o hNc mL_ruleAt kq_3_204 (c_L_ruleAt hl0 hst hr1 hr2 hO) rfl rfl (Nat.le_of_ble_eq_true rfl) ⟨rfl, rfl, ⟨(Nat.le_of_ble_eq_true rfl), (Nat.le_of_ble_eq_true rfl)⟩, ⟨by show _ ≤ 603072; omega, by show _ ≤ 7215210; omega⟩⟩ dL_law_1083 (kcI fun zH w1_o hp => ?_)
  rcases hp with ⟨rfl, z1_o, rfl, e1, e2, hO1, hexP, hsu1⟩ | ⟨rfl, e1, hO1, hexP, hsu1⟩ | ⟨rfl, e1, hO1, hexP, hsu1⟩
  · have hmu1 := hmu.pl (hexP.sub kP7_Pw)
    obtain ⟨fs19P, h19P⟩ := hmu1.obj
    refine k_istore (lv' := [(6, .int (iI 0)), (0, .ref b_o), (1, .ref (ad 0)), (2, .ref (bd 25)), (3, .ref aO), (4, .ref aD), (5, .int (iI i_o))]) h_o dL_law_1086 (by decide) rfl ?_
    refine k_aload_n h_o 3 dL_law_1088 rfl rfl ?_
    refine k_aload_n h_o 1 dL_law_1089 rfl rfl ?_
    refine k_iload h_o 6 dL_law_1090 rfl ?_
    refine k_iconst h_o dL_law_1092 ?_
    refine k_iadd h_o dL_law_1093 ?_
    refine k_sld h_o hsr (x' := x1) (by omega) (by omega) hx1 dL_law_1094 ?_
    refine k_aload_n h_o 1 dL_law_1095 rfl rfl ?_
    refine k_iload h_o 6 dL_law_1096 rfl ?_
    refine k_iconst h_o dL_law_1098 ?_
    refine k_iadd h_o dL_law_1099 ?_
    refine k_sld h_o hsr (x' := x2) (by omega) (by omega) hx2 dL_law_1100 ?_
    refine k_callV (As := [.int (iI x1), .int (iI x2)]) (rest := []) h_o mX7_ruleAt kq_5_107 (c_X7_ruleAt hl0 hmu1 hr1 hr2) 19 h19P rfl rfl rfl (Nat.le_of_ble_eq_true rfl) ⟨rfl, rfl, ⟨(Nat.le_of_ble_eq_true rfl), (Nat.le_of_ble_eq_true rfl)⟩, ⟨by show _ ≤ 603072; omega, by show _ ≤ 7215210; omega⟩⟩ dL_law_1101 (kcI fun zM w2_o hp => ?_)
    rcases hp with ⟨q1, rfl, hmu2, hexM⟩ | ⟨q1, hmu2, hexM⟩ | ⟨q1, hmu2, hexM⟩
    · obtain ⟨fs19M, h19M⟩ := hmu2.obj
      refine k_istore (lv' := [(7, .int (iI ((m_lay g_o nr (lts x1.toNat) (cs x1.toNat) kO0).2.1 x2.toNat))), (6, .int (iI 0)), (0, .ref b_o), (1, .ref (ad 0)), (2, .ref (bd 25)), (3, .ref aO), (4, .ref aD), (5, .int (iI i_o))]) h_o dL_law_1104 (by decide) rfl ?_
      refine k_aload_n h_o 4 dL_law_1106 rfl rfl ?_
      refine k_callV (As := []) (rest := []) h_o mX7_thrown kq_4_203 (c_X7_thrown hl0 hmu2) 19 h19M rfl rfl rfl (Nat.le_of_ble_eq_true rfl) ⟨rfl, rfl, ⟨(Nat.le_of_ble_eq_true rfl), (Nat.le_of_ble_eq_true rfl)⟩, ⟨by show _ ≤ 603072; omega, by show _ ≤ 7215210; omega⟩⟩ dL_law_1107 (kcI fun z1107_o w3_o hp => ?_)
      obtain ⟨rfl, rfl⟩ := hp
      refine k_iload h_o 1 dL_law_1110 rfl ?_
      refine k_icmpS h_o 1117 dL_law_1112 (by decide) ?_
      refine k_iload h_o 1 dL_law_1117 rfl ?_
      refine k_ifne h_o 1134 (by decide) dL_law_1119 (by decide) (fun h1119_o => ?_) (fun h1119_o => ?_)
      · exfalso; omega
      · refine k_aload_n h_o 5 dL_law_1122 rfl rfl ?_
        refine k_iconst h_o dL_law_1123 ?_
        refine k_lald h_o 17 ((hexM 17 (by show ¬ (19 ≤ 17 ∧ 17 ≤ 44); omega)).trans hO1) (by decide) (by decide) dL_law_1124 ?_
        refine k_topL (z' := m_w ((m_lay g_o nr (lts x1.toNat) (cs x1.toNat) kO0).2.1 x2.toNat)) kup_eq ?_
        refine k_iload h_o 0 dL_law_1125 rfl ?_
        refine k_i2lW h_o dL_law_1127 ?_
        refine k_lcmpS h_o dL_law_1128 ?_
        refine k_ifeq h_o 1134 (by decide) dL_law_1129 (by decide) (fun h1129_o => ?_) (fun h1129_o => ?_)
        · refine k_goto h_o 1847 dL_law_1134 (by decide) ?_
          refine k_sub (lv' := [(0, .ref b_o), (1, .ref (ad 0)), (2, .ref (bd 25)), (3, .ref aO), (4, .ref aD), (5, .int (iI i_o))]) [2, 3, 4, 5, 6, 7] rfl ?_
          refine k_wd (k2 := k_o + 7) (n2 := n_o + 630) (by omega) (by omega) ?_
          exact kk _ ⟨_, bd, _, _, _, _, _, _, _, _, _, _, _, _, _, rfl, rfl, ((hexM 17 (by show ¬ (19 ≤ 17 ∧ 17 ≤ 44); omega)).trans hO1), ((hexM 18 (by show ¬ (19 ≤ 18 ∧ 18 ≤ 44); omega)).trans ((hexP 18 (by show ¬ (18 ≤ 17 ∨ 100 ≤ 18); omega)).trans hD)), (hsu1.ox (hexM.sub kMk_Ox)), hmu2⟩
        · exfalso; omega
    · exfalso; (first | omega | exact absurd q1 e1 | exact absurd e1 q1 | exact absurd q1.1 e1 | exact absurd e1 q1.1 | exact absurd e1.1 q1 | exact absurd q1 e1.1 | exact absurd e1.1 q1.1 | exact absurd q1.1 e1.1)
    · exfalso; (first | omega | exact absurd q1 e1 | exact absurd e1 q1 | exact absurd q1.1 e1 | exact absurd e1 q1.1 | exact absurd e1.1 q1 | exact absurd q1 e1.1 | exact absurd e1.1 q1.1 | exact absurd q1.1 e1.1)
  · have hmu1 := hmu.pl (hexP.sub kP7_Pw)
    obtain ⟨fs19P, h19P⟩ := hmu1.obj
    refine k_istore (lv' := [(6, .int (iI 1)), (0, .ref b_o), (1, .ref (ad 0)), (2, .ref (bd 25)), (3, .ref aO), (4, .ref aD), (5, .int (iI i_o))]) h_o dL_law_1086 (by decide) rfl ?_
    refine k_aload_n h_o 3 dL_law_1088 rfl rfl ?_
    refine k_aload_n h_o 1 dL_law_1089 rfl rfl ?_
    refine k_iload h_o 6 dL_law_1090 rfl ?_
    refine k_iconst h_o dL_law_1092 ?_
    refine k_iadd h_o dL_law_1093 ?_
    refine k_sld h_o hsr (x' := x1) (by omega) (by omega) hx1 dL_law_1094 ?_
    refine k_aload_n h_o 1 dL_law_1095 rfl rfl ?_
    refine k_iload h_o 6 dL_law_1096 rfl ?_
    refine k_iconst h_o dL_law_1098 ?_
    refine k_iadd h_o dL_law_1099 ?_
    refine k_sld h_o hsr (x' := x2) (by omega) (by omega) hx2 dL_law_1100 ?_
    refine k_callV (As := [.int (iI x1), .int (iI x2)]) (rest := []) h_o mX7_ruleAt kq_5_107 (c_X7_ruleAt hl0 hmu1 hr1 hr2) 19 h19P rfl rfl rfl (Nat.le_of_ble_eq_true rfl) ⟨rfl, rfl, ⟨(Nat.le_of_ble_eq_true rfl), (Nat.le_of_ble_eq_true rfl)⟩, ⟨by show _ ≤ 603072; omega, by show _ ≤ 7215210; omega⟩⟩ dL_law_1101 (kcI fun zM w2_o hp => ?_)
    rcases hp with ⟨q1, rfl, hmu2, hexM⟩ | ⟨q1, hmu2, hexM⟩ | ⟨q1, hmu2, hexM⟩
    · exfalso; (first | omega | exact absurd q1 e1 | exact absurd e1 q1 | exact absurd q1.1 e1 | exact absurd e1 q1.1 | exact absurd e1.1 q1 | exact absurd q1 e1.1 | exact absurd e1.1 q1.1 | exact absurd q1.1 e1.1)
    · obtain ⟨fs19M, h19M⟩ := hmu2.obj
      refine k_istore (lv' := [(7, .int (iI zM)), (6, .int (iI 1)), (0, .ref b_o), (1, .ref (ad 0)), (2, .ref (bd 25)), (3, .ref aO), (4, .ref aD), (5, .int (iI i_o))]) h_o dL_law_1104 (by decide) rfl ?_
      refine k_aload_n h_o 4 dL_law_1106 rfl rfl ?_
      refine k_callV (As := []) (rest := []) h_o mX7_thrown kq_4_203 (c_X7_thrown hl0 hmu2) 19 h19M rfl rfl rfl (Nat.le_of_ble_eq_true rfl) ⟨rfl, rfl, ⟨(Nat.le_of_ble_eq_true rfl), (Nat.le_of_ble_eq_true rfl)⟩, ⟨by show _ ≤ 603072; omega, by show _ ≤ 7215210; omega⟩⟩ dL_law_1107 (kcI fun z1107_o w3_o hp => ?_)
      obtain ⟨rfl, rfl⟩ := hp
      refine k_iload h_o 1 dL_law_1110 rfl ?_
      refine k_icmpS h_o 1117 dL_law_1112 (by decide) ?_
      refine k_iload h_o 1 dL_law_1117 rfl ?_
      refine k_ifne h_o 1134 (by decide) dL_law_1119 (by decide) (fun h1119_o => ?_) (fun h1119_o => ?_)
      · refine k_goto h_o 1847 dL_law_1134 (by decide) ?_
        refine k_sub (lv' := [(0, .ref b_o), (1, .ref (ad 0)), (2, .ref (bd 25)), (3, .ref aO), (4, .ref aD), (5, .int (iI i_o))]) [2, 3, 4, 5, 6, 7] rfl ?_
        refine k_wd (k2 := k_o + 7) (n2 := n_o + 630) (by omega) (by omega) ?_
        exact kk _ ⟨_, bd, _, _, _, _, _, _, _, _, _, _, _, _, _, rfl, rfl, ((hexM 17 (by show ¬ (19 ≤ 17 ∧ 17 ≤ 44); omega)).trans hO1), ((hexM 18 (by show ¬ (19 ≤ 18 ∧ 18 ≤ 44); omega)).trans ((hexP 18 (by show ¬ (18 ≤ 17 ∨ 100 ≤ 18); omega)).trans hD)), (hsu1.ox (hexM.sub kMk_Ox)), hmu2⟩
      · exfalso; omega
    · exfalso; (first | omega | exact absurd q1 e1 | exact absurd e1 q1 | exact absurd q1.1 e1 | exact absurd e1 q1.1 | exact absurd e1.1 q1 | exact absurd q1 e1.1 | exact absurd e1.1 q1.1 | exact absurd q1.1 e1.1)
  · have hmu1 := hmu.pl (hexP.sub kP7_Pw)
    obtain ⟨fs19P, h19P⟩ := hmu1.obj
    refine k_istore (lv' := [(6, .int (iI 2)), (0, .ref b_o), (1, .ref (ad 0)), (2, .ref (bd 25)), (3, .ref aO), (4, .ref aD), (5, .int (iI i_o))]) h_o dL_law_1086 (by decide) rfl ?_
    refine k_aload_n h_o 3 dL_law_1088 rfl rfl ?_
    refine k_aload_n h_o 1 dL_law_1089 rfl rfl ?_
    refine k_iload h_o 6 dL_law_1090 rfl ?_
    refine k_iconst h_o dL_law_1092 ?_
    refine k_iadd h_o dL_law_1093 ?_
    refine k_sld h_o hsr (x' := x1) (by omega) (by omega) hx1 dL_law_1094 ?_
    refine k_aload_n h_o 1 dL_law_1095 rfl rfl ?_
    refine k_iload h_o 6 dL_law_1096 rfl ?_
    refine k_iconst h_o dL_law_1098 ?_
    refine k_iadd h_o dL_law_1099 ?_
    refine k_sld h_o hsr (x' := x2) (by omega) (by omega) hx2 dL_law_1100 ?_
    refine k_callV (As := [.int (iI x1), .int (iI x2)]) (rest := []) h_o mX7_ruleAt kq_5_107 (c_X7_ruleAt hl0 hmu1 hr1 hr2) 19 h19P rfl rfl rfl (Nat.le_of_ble_eq_true rfl) ⟨rfl, rfl, ⟨(Nat.le_of_ble_eq_true rfl), (Nat.le_of_ble_eq_true rfl)⟩, ⟨by show _ ≤ 603072; omega, by show _ ≤ 7215210; omega⟩⟩ dL_law_1101 (kcI fun zM w2_o hp => ?_)
    rcases hp with ⟨q1, rfl, hmu2, hexM⟩ | ⟨q1, hmu2, hexM⟩ | ⟨q1, hmu2, hexM⟩
    · exfalso; (first | omega | exact absurd q1 e1 | exact absurd e1 q1 | exact absurd q1.1 e1 | exact absurd e1 q1.1 | exact absurd e1.1 q1 | exact absurd q1 e1.1 | exact absurd e1.1 q1.1 | exact absurd q1.1 e1.1)
    · exfalso; (first | omega | exact absurd q1 e1 | exact absurd e1 q1 | exact absurd q1.1 e1 | exact absurd e1 q1.1 | exact absurd e1.1 q1 | exact absurd q1 e1.1 | exact absurd e1.1 q1.1 | exact absurd q1.1 e1.1)
    · obtain ⟨fs19M, h19M⟩ := hmu2.obj
      refine k_istore (lv' := [(7, .int (iI zM)), (6, .int (iI 2)), (0, .ref b_o), (1, .ref (ad 0)), (2, .ref (bd 25)), (3, .ref aO), (4, .ref aD), (5, .int (iI i_o))]) h_o dL_law_1104 (by decide) rfl ?_
      refine k_aload_n h_o 4 dL_law_1106 rfl rfl ?_
      refine k_callV (As := []) (rest := []) h_o mX7_thrown kq_4_203 (c_X7_thrown hl0 hmu2) 19 h19M rfl rfl rfl (Nat.le_of_ble_eq_true rfl) ⟨rfl, rfl, ⟨(Nat.le_of_ble_eq_true rfl), (Nat.le_of_ble_eq_true rfl)⟩, ⟨by show _ ≤ 603072; omega, by show _ ≤ 7215210; omega⟩⟩ dL_law_1107 (kcI fun z1107_o w3_o hp => ?_)
      obtain ⟨rfl, rfl⟩ := hp
      refine k_iload h_o 1 dL_law_1110 rfl ?_
      refine k_icmpS h_o 1117 dL_law_1112 (by decide) ?_
      refine k_iload h_o 1 dL_law_1117 rfl ?_
      refine k_ifne h_o 1134 (by decide) dL_law_1119 (by decide) (fun h1119_o => ?_) (fun h1119_o => ?_)
      · refine k_goto h_o 1847 dL_law_1134 (by decide) ?_
        refine k_sub (lv' := [(0, .ref b_o), (1, .ref (ad 0)), (2, .ref (bd 25)), (3, .ref aO), (4, .ref aD), (5, .int (iI i_o))]) [2, 3, 4, 5, 6, 7] rfl ?_
        refine k_wd (k2 := k_o + 7) (n2 := n_o + 630) (by omega) (by omega) ?_
        exact kk _ ⟨_, bd, _, _, _, _, _, _, _, _, _, _, _, _, _, rfl, rfl, ((hexM 17 (by show ¬ (19 ≤ 17 ∧ 17 ≤ 44); omega)).trans hO1), ((hexM 18 (by show ¬ (19 ≤ 18 ∧ 18 ≤ 44); omega)).trans ((hexP 18 (by show ¬ (18 ≤ 17 ∨ 100 ≤ 18); omega)).trans hD)), (hsu1.ox (hexM.sub kMk_Ox)), hmu2⟩
      · exfalso; omega

set_option maxHeartbeats 4000000 in
set_option maxRecDepth 100000 in
theorem law_depth {E_o : kE} {X_o : kX} {k_o n_o b_o L_o : Nat} {xs : Nat → Int32} (hl0 : (kXl X_o).stackTraces = false) (h_o : kOk E_o X_o code RL 9 room_1) (hNc : kNc (kXs X_o)) (hsr : kSr E_o X_o b_o L_o xs) (hL : L_o ≤ 2560) {i_o : Int} (hi_o : 0 ≤ i_o ∧ i_o + 5 ≤ (L_o : Int)) (hk : k_o + 7 ≤ 603072) (hn : n_o + 630 ≤ 7215210) {w_o : kW} {ad : Nat → Nat} {nr : Nat} {g_o : Nat → Nat → Int} {T_o : Nat} {lts : Nat → Nat → Int} {cs : Nat → Int} {acs : Nat → Nat → Int} {ams : Nat → Int} {rel fnd : Int} {Ns : Nat → Nat → Nat} {bd : Nat → Nat} {th : Int} {aO aD : Nat} {fO : Nat → Int} {fD : Nat → UInt64} (hO : w_o 17 = some (aO, al 1 fO)) (hD : w_o 18 = some (aD, kDl 1 fD)) (hst : kSu w_o ad nr g_o T_o lts cs acs ams rel fnd Ns) (hmu : kMu w_o bd nr g_o T_o lts cs acs ams rel fnd th) (kk : ∀ w2_o : kW, kLI w2_o (ad 0) (bd 25) aO aD → kG E_o X_o 9 (k_o + 7) (n_o + 630) w2_o 1847 [(0, .ref b_o), (1, .ref (ad 0)), (2, .ref (bd 25)), (3, .ref aO), (4, .ref aD), (5, .int (iI i_o))] []) : kG E_o X_o 9 k_o n_o w_o 1137 [(0, .ref b_o), (1, .ref (ad 0)), (2, .ref (bd 25)), (3, .ref aO), (4, .ref aD), (5, .int (iI i_o))] [] := by
  obtain ⟨x1, hx1⟩ : ∃ z_o, z_o = (xs (i_o + 1).toNat).toInt := ⟨_, rfl⟩
  have hr1 : -2147483648 ≤ x1 ∧ x1 < 2147483648 := by rw [hx1]; exact iI_rg _
  obtain ⟨x2, hx2⟩ : ∃ z_o, z_o = (xs (i_o + 2).toNat).toInt := ⟨_, rfl⟩
  have hr2 : -2147483648 ≤ x2 ∧ x2 < 2147483648 := by rw [hx2]; exact iI_rg _
  obtain ⟨x3, hx3⟩ : ∃ z_o, z_o = (xs (i_o + 3).toNat).toInt := ⟨_, rfl⟩
  have hr3 : -2147483648 ≤ x3 ∧ x3 < 2147483648 := by rw [hx3]; exact iI_rg _
  obtain ⟨x4, hx4⟩ : ∃ z_o, z_o = (xs (i_o + 4).toNat).toInt := ⟨_, rfl⟩
  have hr4 : -2147483648 ≤ x4 ∧ x4 < 2147483648 := by rw [hx4]; exact iI_rg _
  obtain ⟨fs19, h19_o⟩ := hmu.obj
  refine k_aload_n h_o 1 dL_law_1137 rfl rfl ?_
  refine k_aload_n h_o 0 dL_law_1138 rfl rfl ?_
  refine k_iload h_o 5 dL_law_1139 rfl ?_
  refine k_iconst h_o dL_law_1141 ?_
  refine k_iadd h_o dL_law_1142 ?_
  refine k_sld h_o hsr (x' := x1) (by omega) (by omega) hx1 dL_law_1143 ?_
  refine k_aload_n h_o 3 dL_law_1144 rfl rfl ?_
  refine k_callSWN (As := [.ref (ad 0), .int (iI x1), .ref aO]) (rest := []) h_o hNc mL_depth kq_3_215 (c_L_depth hl0 hst hr1 hO) rfl rfl (Nat.le_of_ble_eq_true rfl) ⟨rfl, rfl, ⟨(Nat.le_of_ble_eq_true rfl), (Nat.le_of_ble_eq_true rfl)⟩, ⟨by show _ ≤ 603072; omega, by show _ ≤ 7215210; omega⟩⟩ dL_law_1145 (kcI fun zH w1_o hp => ?_)
  rcases hp with ⟨rfl, z1_o, rfl, e1, hO1, hexP, hsu1⟩ | ⟨rfl, e1, hO1, hexP, hsu1⟩
  · have hmu1 := hmu.pl (hexP.sub kP7_Pw)
    obtain ⟨fs19P, h19P⟩ := hmu1.obj
    refine k_istore (lv' := [(6, .int (iI 0)), (0, .ref b_o), (1, .ref (ad 0)), (2, .ref (bd 25)), (3, .ref aO), (4, .ref aD), (5, .int (iI i_o))]) h_o dL_law_1148 (by decide) rfl ?_
    refine k_aload_n h_o 3 dL_law_1150 rfl rfl ?_
    refine k_aload_n h_o 1 dL_law_1151 rfl rfl ?_
    refine k_iload h_o 6 dL_law_1152 rfl ?_
    refine k_iconst h_o dL_law_1154 ?_
    refine k_iadd h_o dL_law_1155 ?_
    refine k_sld h_o hsr (x' := x1) (by omega) (by omega) hx1 dL_law_1156 ?_
    refine k_callV (As := [.int (iI x1)]) (rest := []) h_o mX7_depth kq_5_111 (c_X7_depth hl0 hmu1 hr1) 19 h19P rfl rfl rfl (Nat.le_of_ble_eq_true rfl) ⟨rfl, rfl, ⟨(Nat.le_of_ble_eq_true rfl), (Nat.le_of_ble_eq_true rfl)⟩, ⟨by show _ ≤ 603072; omega, by show _ ≤ 7215210; omega⟩⟩ dL_law_1157 (kcI fun zM w2_o hp => ?_)
    rcases hp with ⟨q1, rfl, hmu2, hexM⟩ | ⟨q1, hmu2, hexM⟩
    · obtain ⟨fs19M, h19M⟩ := hmu2.obj
      refine k_istore (lv' := [(7, .int (iI ((m_lay g_o nr (lts x1.toNat) (cs x1.toNat) kO0).2.2.2.2.1))), (6, .int (iI 0)), (0, .ref b_o), (1, .ref (ad 0)), (2, .ref (bd 25)), (3, .ref aO), (4, .ref aD), (5, .int (iI i_o))]) h_o dL_law_1160 (by decide) rfl ?_
      refine k_aload_n h_o 4 dL_law_1162 rfl rfl ?_
      refine k_callV (As := []) (rest := []) h_o mX7_thrown kq_4_203 (c_X7_thrown hl0 hmu2) 19 h19M rfl rfl rfl (Nat.le_of_ble_eq_true rfl) ⟨rfl, rfl, ⟨(Nat.le_of_ble_eq_true rfl), (Nat.le_of_ble_eq_true rfl)⟩, ⟨by show _ ≤ 603072; omega, by show _ ≤ 7215210; omega⟩⟩ dL_law_1163 (kcI fun z1163_o w3_o hp => ?_)
      obtain ⟨rfl, rfl⟩ := hp
      refine k_iload h_o 1 dL_law_1166 rfl ?_
      refine k_icmpS h_o 1173 dL_law_1168 (by decide) ?_
      refine k_iload h_o 1 dL_law_1173 rfl ?_
      refine k_ifne h_o 1190 (by decide) dL_law_1175 (by decide) (fun h1175_o => ?_) (fun h1175_o => ?_)
      · exfalso; omega
      · refine k_aload_n h_o 5 dL_law_1178 rfl rfl ?_
        refine k_iconst h_o dL_law_1179 ?_
        refine k_lald h_o 17 ((hexM 17 (by show ¬ (19 ≤ 17 ∧ 17 ≤ 44); omega)).trans hO1) (by decide) (by decide) dL_law_1180 ?_
        refine k_topL (z' := m_w ((m_lay g_o nr (lts x1.toNat) (cs x1.toNat) kO0).2.2.2.2.1)) kup_eq ?_
        refine k_iload h_o 0 dL_law_1181 rfl ?_
        refine k_i2lW h_o dL_law_1183 ?_
        refine k_lcmpS h_o dL_law_1184 ?_
        refine k_ifeq h_o 1190 (by decide) dL_law_1185 (by decide) (fun h1185_o => ?_) (fun h1185_o => ?_)
        · refine k_goto h_o 1847 dL_law_1190 (by decide) ?_
          refine k_sub (lv' := [(0, .ref b_o), (1, .ref (ad 0)), (2, .ref (bd 25)), (3, .ref aO), (4, .ref aD), (5, .int (iI i_o))]) [2, 3, 4, 5, 6, 7] rfl ?_
          refine k_wd (k2 := k_o + 7) (n2 := n_o + 630) (by omega) (by omega) ?_
          exact kk _ ⟨_, bd, _, _, _, _, _, _, _, _, _, _, _, _, _, rfl, rfl, ((hexM 17 (by show ¬ (19 ≤ 17 ∧ 17 ≤ 44); omega)).trans hO1), ((hexM 18 (by show ¬ (19 ≤ 18 ∧ 18 ≤ 44); omega)).trans ((hexP 18 (by show ¬ (18 ≤ 17 ∨ 100 ≤ 18); omega)).trans hD)), (hsu1.ox (hexM.sub kMk_Ox)), hmu2⟩
        · exfalso; omega
    · exfalso; (first | omega | exact absurd q1 e1 | exact absurd e1 q1 | exact absurd q1.1 e1 | exact absurd e1 q1.1 | exact absurd e1.1 q1 | exact absurd q1 e1.1 | exact absurd e1.1 q1.1 | exact absurd q1.1 e1.1)
  · have hmu1 := hmu.pl (hexP.sub kP7_Pw)
    obtain ⟨fs19P, h19P⟩ := hmu1.obj
    refine k_istore (lv' := [(6, .int (iI 1)), (0, .ref b_o), (1, .ref (ad 0)), (2, .ref (bd 25)), (3, .ref aO), (4, .ref aD), (5, .int (iI i_o))]) h_o dL_law_1148 (by decide) rfl ?_
    refine k_aload_n h_o 3 dL_law_1150 rfl rfl ?_
    refine k_aload_n h_o 1 dL_law_1151 rfl rfl ?_
    refine k_iload h_o 6 dL_law_1152 rfl ?_
    refine k_iconst h_o dL_law_1154 ?_
    refine k_iadd h_o dL_law_1155 ?_
    refine k_sld h_o hsr (x' := x1) (by omega) (by omega) hx1 dL_law_1156 ?_
    refine k_callV (As := [.int (iI x1)]) (rest := []) h_o mX7_depth kq_5_111 (c_X7_depth hl0 hmu1 hr1) 19 h19P rfl rfl rfl (Nat.le_of_ble_eq_true rfl) ⟨rfl, rfl, ⟨(Nat.le_of_ble_eq_true rfl), (Nat.le_of_ble_eq_true rfl)⟩, ⟨by show _ ≤ 603072; omega, by show _ ≤ 7215210; omega⟩⟩ dL_law_1157 (kcI fun zM w2_o hp => ?_)
    rcases hp with ⟨q1, rfl, hmu2, hexM⟩ | ⟨q1, hmu2, hexM⟩
    · exfalso; (first | omega | exact absurd q1 e1 | exact absurd e1 q1 | exact absurd q1.1 e1 | exact absurd e1 q1.1 | exact absurd e1.1 q1 | exact absurd q1 e1.1 | exact absurd e1.1 q1.1 | exact absurd q1.1 e1.1)
    · obtain ⟨fs19M, h19M⟩ := hmu2.obj
      refine k_istore (lv' := [(7, .int (iI zM)), (6, .int (iI 1)), (0, .ref b_o), (1, .ref (ad 0)), (2, .ref (bd 25)), (3, .ref aO), (4, .ref aD), (5, .int (iI i_o))]) h_o dL_law_1160 (by decide) rfl ?_
      refine k_aload_n h_o 4 dL_law_1162 rfl rfl ?_
      refine k_callV (As := []) (rest := []) h_o mX7_thrown kq_4_203 (c_X7_thrown hl0 hmu2) 19 h19M rfl rfl rfl (Nat.le_of_ble_eq_true rfl) ⟨rfl, rfl, ⟨(Nat.le_of_ble_eq_true rfl), (Nat.le_of_ble_eq_true rfl)⟩, ⟨by show _ ≤ 603072; omega, by show _ ≤ 7215210; omega⟩⟩ dL_law_1163 (kcI fun z1163_o w3_o hp => ?_)
      obtain ⟨rfl, rfl⟩ := hp
      refine k_iload h_o 1 dL_law_1166 rfl ?_
      refine k_icmpS h_o 1173 dL_law_1168 (by decide) ?_
      refine k_iload h_o 1 dL_law_1173 rfl ?_
      refine k_ifne h_o 1190 (by decide) dL_law_1175 (by decide) (fun h1175_o => ?_) (fun h1175_o => ?_)
      · refine k_goto h_o 1847 dL_law_1190 (by decide) ?_
        refine k_sub (lv' := [(0, .ref b_o), (1, .ref (ad 0)), (2, .ref (bd 25)), (3, .ref aO), (4, .ref aD), (5, .int (iI i_o))]) [2, 3, 4, 5, 6, 7] rfl ?_
        refine k_wd (k2 := k_o + 7) (n2 := n_o + 630) (by omega) (by omega) ?_
        exact kk _ ⟨_, bd, _, _, _, _, _, _, _, _, _, _, _, _, _, rfl, rfl, ((hexM 17 (by show ¬ (19 ≤ 17 ∧ 17 ≤ 44); omega)).trans hO1), ((hexM 18 (by show ¬ (19 ≤ 18 ∧ 18 ≤ 44); omega)).trans ((hexP 18 (by show ¬ (18 ≤ 17 ∨ 100 ≤ 18); omega)).trans hD)), (hsu1.ox (hexM.sub kMk_Ox)), hmu2⟩
      · exfalso; omega

set_option maxHeartbeats 4000000 in
set_option maxRecDepth 100000 in
theorem law_colourAt {E_o : kE} {X_o : kX} {k_o n_o b_o L_o : Nat} {xs : Nat → Int32} (hl0 : (kXl X_o).stackTraces = false) (h_o : kOk E_o X_o code RL 9 room_1) (hNc : kNc (kXs X_o)) (hsr : kSr E_o X_o b_o L_o xs) (hL : L_o ≤ 2560) {i_o : Int} (hi_o : 0 ≤ i_o ∧ i_o + 5 ≤ (L_o : Int)) (hk : k_o + 7 ≤ 603072) (hn : n_o + 630 ≤ 7215210) {w_o : kW} {ad : Nat → Nat} {nr : Nat} {g_o : Nat → Nat → Int} {T_o : Nat} {lts : Nat → Nat → Int} {cs : Nat → Int} {acs : Nat → Nat → Int} {ams : Nat → Int} {rel fnd : Int} {Ns : Nat → Nat → Nat} {bd : Nat → Nat} {th : Int} {aO aD : Nat} {fO : Nat → Int} {fD : Nat → UInt64} (hO : w_o 17 = some (aO, al 1 fO)) (hD : w_o 18 = some (aD, kDl 1 fD)) (hst : kSu w_o ad nr g_o T_o lts cs acs ams rel fnd Ns) (hmu : kMu w_o bd nr g_o T_o lts cs acs ams rel fnd th) (kk : ∀ w2_o : kW, kLI w2_o (ad 0) (bd 25) aO aD → kG E_o X_o 9 (k_o + 7) (n_o + 630) w2_o 1847 [(0, .ref b_o), (1, .ref (ad 0)), (2, .ref (bd 25)), (3, .ref aO), (4, .ref aD), (5, .int (iI i_o))] []) : kG E_o X_o 9 k_o n_o w_o 1193 [(0, .ref b_o), (1, .ref (ad 0)), (2, .ref (bd 25)), (3, .ref aO), (4, .ref aD), (5, .int (iI i_o))] [] := by
  obtain ⟨x1, hx1⟩ : ∃ z_o, z_o = (xs (i_o + 1).toNat).toInt := ⟨_, rfl⟩
  have hr1 : -2147483648 ≤ x1 ∧ x1 < 2147483648 := by rw [hx1]; exact iI_rg _
  obtain ⟨x2, hx2⟩ : ∃ z_o, z_o = (xs (i_o + 2).toNat).toInt := ⟨_, rfl⟩
  have hr2 : -2147483648 ≤ x2 ∧ x2 < 2147483648 := by rw [hx2]; exact iI_rg _
  obtain ⟨x3, hx3⟩ : ∃ z_o, z_o = (xs (i_o + 3).toNat).toInt := ⟨_, rfl⟩
  have hr3 : -2147483648 ≤ x3 ∧ x3 < 2147483648 := by rw [hx3]; exact iI_rg _
  obtain ⟨x4, hx4⟩ : ∃ z_o, z_o = (xs (i_o + 4).toNat).toInt := ⟨_, rfl⟩
  have hr4 : -2147483648 ≤ x4 ∧ x4 < 2147483648 := by rw [hx4]; exact iI_rg _
  obtain ⟨fs19, h19_o⟩ := hmu.obj
  refine k_aload_n h_o 1 dL_law_1193 rfl rfl ?_
  refine k_aload_n h_o 0 dL_law_1194 rfl rfl ?_
  refine k_iload h_o 5 dL_law_1195 rfl ?_
  refine k_iconst h_o dL_law_1197 ?_
  refine k_iadd h_o dL_law_1198 ?_
  refine k_sld h_o hsr (x' := x1) (by omega) (by omega) hx1 dL_law_1199 ?_
  refine k_aload_n h_o 0 dL_law_1200 rfl rfl ?_
  refine k_iload h_o 5 dL_law_1201 rfl ?_
  refine k_iconst h_o dL_law_1203 ?_
  refine k_iadd h_o dL_law_1204 ?_
  refine k_sld h_o hsr (x' := x2) (by omega) (by omega) hx2 dL_law_1205 ?_
  refine k_aload_n h_o 3 dL_law_1206 rfl rfl ?_
  refine k_callSWN (As := [.ref (ad 0), .int (iI x1), .int (iI x2), .ref aO]) (rest := []) h_o hNc mL_colourAt kq_3_222 (c_L_colourAt hl0 hst hr1 hr2 hO) rfl rfl (Nat.le_of_ble_eq_true rfl) ⟨rfl, rfl, ⟨(Nat.le_of_ble_eq_true rfl), (Nat.le_of_ble_eq_true rfl)⟩, ⟨by show _ ≤ 603072; omega, by show _ ≤ 7215210; omega⟩⟩ dL_law_1207 (kcI fun zH w1_o hp => ?_)
  rcases hp with ⟨rfl, z1_o, rfl, e1, hO1, hexP, hsu1⟩ | ⟨rfl, e1, hO1, hexP, hsu1⟩
  · have hmu1 := hmu.pl (hexP.sub kP7_Pw)
    obtain ⟨fs19P, h19P⟩ := hmu1.obj
    refine k_istore (lv' := [(6, .int (iI 0)), (0, .ref b_o), (1, .ref (ad 0)), (2, .ref (bd 25)), (3, .ref aO), (4, .ref aD), (5, .int (iI i_o))]) h_o dL_law_1210 (by decide) rfl ?_
    refine k_aload_n h_o 3 dL_law_1212 rfl rfl ?_
    refine k_aload_n h_o 1 dL_law_1213 rfl rfl ?_
    refine k_iload h_o 6 dL_law_1214 rfl ?_
    refine k_iconst h_o dL_law_1216 ?_
    refine k_iadd h_o dL_law_1217 ?_
    refine k_sld h_o hsr (x' := x1) (by omega) (by omega) hx1 dL_law_1218 ?_
    refine k_aload_n h_o 1 dL_law_1219 rfl rfl ?_
    refine k_iload h_o 6 dL_law_1220 rfl ?_
    refine k_iconst h_o dL_law_1222 ?_
    refine k_iadd h_o dL_law_1223 ?_
    refine k_sld h_o hsr (x' := x2) (by omega) (by omega) hx2 dL_law_1224 ?_
    refine k_callV (As := [.int (iI x1), .int (iI x2)]) (rest := []) h_o mX7_colourAt kq_5_115 (c_X7_colourAt hl0 hmu1 hr1 hr2) 19 h19P rfl rfl rfl (Nat.le_of_ble_eq_true rfl) ⟨rfl, rfl, ⟨(Nat.le_of_ble_eq_true rfl), (Nat.le_of_ble_eq_true rfl)⟩, ⟨by show _ ≤ 603072; omega, by show _ ≤ 7215210; omega⟩⟩ dL_law_1225 (kcI fun zM w2_o hp => ?_)
    rcases hp with ⟨q1, rfl, hmu2, hexM⟩ | ⟨q1, hmu2, hexM⟩
    · obtain ⟨fs19M, h19M⟩ := hmu2.obj
      refine k_istore (lv' := [(7, .int (iI ((m_lay g_o nr (lts x1.toNat) (cs x1.toNat) kO0).2.2.1 x2.toNat))), (6, .int (iI 0)), (0, .ref b_o), (1, .ref (ad 0)), (2, .ref (bd 25)), (3, .ref aO), (4, .ref aD), (5, .int (iI i_o))]) h_o dL_law_1228 (by decide) rfl ?_
      refine k_aload_n h_o 4 dL_law_1230 rfl rfl ?_
      refine k_callV (As := []) (rest := []) h_o mX7_thrown kq_4_203 (c_X7_thrown hl0 hmu2) 19 h19M rfl rfl rfl (Nat.le_of_ble_eq_true rfl) ⟨rfl, rfl, ⟨(Nat.le_of_ble_eq_true rfl), (Nat.le_of_ble_eq_true rfl)⟩, ⟨by show _ ≤ 603072; omega, by show _ ≤ 7215210; omega⟩⟩ dL_law_1231 (kcI fun z1231_o w3_o hp => ?_)
      obtain ⟨rfl, rfl⟩ := hp
      refine k_iload h_o 1 dL_law_1234 rfl ?_
      refine k_icmpS h_o 1241 dL_law_1236 (by decide) ?_
      refine k_iload h_o 1 dL_law_1241 rfl ?_
      refine k_ifne h_o 1258 (by decide) dL_law_1243 (by decide) (fun h1243_o => ?_) (fun h1243_o => ?_)
      · exfalso; omega
      · refine k_aload_n h_o 5 dL_law_1246 rfl rfl ?_
        refine k_iconst h_o dL_law_1247 ?_
        refine k_lald h_o 17 ((hexM 17 (by show ¬ (19 ≤ 17 ∧ 17 ≤ 44); omega)).trans hO1) (by decide) (by decide) dL_law_1248 ?_
        refine k_topL (z' := m_w ((m_lay g_o nr (lts x1.toNat) (cs x1.toNat) kO0).2.2.1 x2.toNat)) kup_eq ?_
        refine k_iload h_o 0 dL_law_1249 rfl ?_
        refine k_i2lW h_o dL_law_1251 ?_
        refine k_lcmpS h_o dL_law_1252 ?_
        refine k_ifeq h_o 1258 (by decide) dL_law_1253 (by decide) (fun h1253_o => ?_) (fun h1253_o => ?_)
        · refine k_goto h_o 1847 dL_law_1258 (by decide) ?_
          refine k_sub (lv' := [(0, .ref b_o), (1, .ref (ad 0)), (2, .ref (bd 25)), (3, .ref aO), (4, .ref aD), (5, .int (iI i_o))]) [2, 3, 4, 5, 6, 7] rfl ?_
          refine k_wd (k2 := k_o + 7) (n2 := n_o + 630) (by omega) (by omega) ?_
          exact kk _ ⟨_, bd, _, _, _, _, _, _, _, _, _, _, _, _, _, rfl, rfl, ((hexM 17 (by show ¬ (19 ≤ 17 ∧ 17 ≤ 44); omega)).trans hO1), ((hexM 18 (by show ¬ (19 ≤ 18 ∧ 18 ≤ 44); omega)).trans ((hexP 18 (by show ¬ (18 ≤ 17 ∨ 100 ≤ 18); omega)).trans hD)), (hsu1.ox (hexM.sub kMk_Ox)), hmu2⟩
        · exfalso; omega
    · exfalso; (first | omega | exact absurd q1 e1 | exact absurd e1 q1 | exact absurd q1.1 e1 | exact absurd e1 q1.1 | exact absurd e1.1 q1 | exact absurd q1 e1.1 | exact absurd e1.1 q1.1 | exact absurd q1.1 e1.1)
  · have hmu1 := hmu.pl (hexP.sub kP7_Pw)
    obtain ⟨fs19P, h19P⟩ := hmu1.obj
    refine k_istore (lv' := [(6, .int (iI 1)), (0, .ref b_o), (1, .ref (ad 0)), (2, .ref (bd 25)), (3, .ref aO), (4, .ref aD), (5, .int (iI i_o))]) h_o dL_law_1210 (by decide) rfl ?_
    refine k_aload_n h_o 3 dL_law_1212 rfl rfl ?_
    refine k_aload_n h_o 1 dL_law_1213 rfl rfl ?_
    refine k_iload h_o 6 dL_law_1214 rfl ?_
    refine k_iconst h_o dL_law_1216 ?_
    refine k_iadd h_o dL_law_1217 ?_
    refine k_sld h_o hsr (x' := x1) (by omega) (by omega) hx1 dL_law_1218 ?_
    refine k_aload_n h_o 1 dL_law_1219 rfl rfl ?_
    refine k_iload h_o 6 dL_law_1220 rfl ?_
    refine k_iconst h_o dL_law_1222 ?_
    refine k_iadd h_o dL_law_1223 ?_
    refine k_sld h_o hsr (x' := x2) (by omega) (by omega) hx2 dL_law_1224 ?_
    refine k_callV (As := [.int (iI x1), .int (iI x2)]) (rest := []) h_o mX7_colourAt kq_5_115 (c_X7_colourAt hl0 hmu1 hr1 hr2) 19 h19P rfl rfl rfl (Nat.le_of_ble_eq_true rfl) ⟨rfl, rfl, ⟨(Nat.le_of_ble_eq_true rfl), (Nat.le_of_ble_eq_true rfl)⟩, ⟨by show _ ≤ 603072; omega, by show _ ≤ 7215210; omega⟩⟩ dL_law_1225 (kcI fun zM w2_o hp => ?_)
    rcases hp with ⟨q1, rfl, hmu2, hexM⟩ | ⟨q1, hmu2, hexM⟩
    · exfalso; (first | omega | exact absurd q1 e1 | exact absurd e1 q1 | exact absurd q1.1 e1 | exact absurd e1 q1.1 | exact absurd e1.1 q1 | exact absurd q1 e1.1 | exact absurd e1.1 q1.1 | exact absurd q1.1 e1.1)
    · obtain ⟨fs19M, h19M⟩ := hmu2.obj
      refine k_istore (lv' := [(7, .int (iI zM)), (6, .int (iI 1)), (0, .ref b_o), (1, .ref (ad 0)), (2, .ref (bd 25)), (3, .ref aO), (4, .ref aD), (5, .int (iI i_o))]) h_o dL_law_1228 (by decide) rfl ?_
      refine k_aload_n h_o 4 dL_law_1230 rfl rfl ?_
      refine k_callV (As := []) (rest := []) h_o mX7_thrown kq_4_203 (c_X7_thrown hl0 hmu2) 19 h19M rfl rfl rfl (Nat.le_of_ble_eq_true rfl) ⟨rfl, rfl, ⟨(Nat.le_of_ble_eq_true rfl), (Nat.le_of_ble_eq_true rfl)⟩, ⟨by show _ ≤ 603072; omega, by show _ ≤ 7215210; omega⟩⟩ dL_law_1231 (kcI fun z1231_o w3_o hp => ?_)
      obtain ⟨rfl, rfl⟩ := hp
      refine k_iload h_o 1 dL_law_1234 rfl ?_
      refine k_icmpS h_o 1241 dL_law_1236 (by decide) ?_
      refine k_iload h_o 1 dL_law_1241 rfl ?_
      refine k_ifne h_o 1258 (by decide) dL_law_1243 (by decide) (fun h1243_o => ?_) (fun h1243_o => ?_)
      · refine k_goto h_o 1847 dL_law_1258 (by decide) ?_
        refine k_sub (lv' := [(0, .ref b_o), (1, .ref (ad 0)), (2, .ref (bd 25)), (3, .ref aO), (4, .ref aD), (5, .int (iI i_o))]) [2, 3, 4, 5, 6, 7] rfl ?_
        refine k_wd (k2 := k_o + 7) (n2 := n_o + 630) (by omega) (by omega) ?_
        exact kk _ ⟨_, bd, _, _, _, _, _, _, _, _, _, _, _, _, _, rfl, rfl, ((hexM 17 (by show ¬ (19 ≤ 17 ∧ 17 ≤ 44); omega)).trans hO1), ((hexM 18 (by show ¬ (19 ≤ 18 ∧ 18 ≤ 44); omega)).trans ((hexP 18 (by show ¬ (18 ≤ 17 ∨ 100 ≤ 18); omega)).trans hD)), (hsu1.ox (hexM.sub kMk_Ox)), hmu2⟩
      · exfalso; omega

set_option maxHeartbeats 4000000 in
set_option maxRecDepth 100000 in
theorem law_formatted {E_o : kE} {X_o : kX} {k_o n_o b_o L_o : Nat} {xs : Nat → Int32} (hl0 : (kXl X_o).stackTraces = false) (h_o : kOk E_o X_o code RL 9 room_1) (hNc : kNc (kXs X_o)) (hsr : kSr E_o X_o b_o L_o xs) (hL : L_o ≤ 2560) {i_o : Int} (hi_o : 0 ≤ i_o ∧ i_o + 5 ≤ (L_o : Int)) (hk : k_o + 7 ≤ 603072) (hn : n_o + 630 ≤ 7215210) {w_o : kW} {ad : Nat → Nat} {nr : Nat} {g_o : Nat → Nat → Int} {T_o : Nat} {lts : Nat → Nat → Int} {cs : Nat → Int} {acs : Nat → Nat → Int} {ams : Nat → Int} {rel fnd : Int} {Ns : Nat → Nat → Nat} {bd : Nat → Nat} {th : Int} {aO aD : Nat} {fO : Nat → Int} {fD : Nat → UInt64} (hO : w_o 17 = some (aO, al 1 fO)) (hD : w_o 18 = some (aD, kDl 1 fD)) (hst : kSu w_o ad nr g_o T_o lts cs acs ams rel fnd Ns) (hmu : kMu w_o bd nr g_o T_o lts cs acs ams rel fnd th) (kk : ∀ w2_o : kW, kLI w2_o (ad 0) (bd 25) aO aD → kG E_o X_o 9 (k_o + 7) (n_o + 630) w2_o 1847 [(0, .ref b_o), (1, .ref (ad 0)), (2, .ref (bd 25)), (3, .ref aO), (4, .ref aD), (5, .int (iI i_o))] []) : kG E_o X_o 9 k_o n_o w_o 1261 [(0, .ref b_o), (1, .ref (ad 0)), (2, .ref (bd 25)), (3, .ref aO), (4, .ref aD), (5, .int (iI i_o))] [] := by
  obtain ⟨x1, hx1⟩ : ∃ z_o, z_o = (xs (i_o + 1).toNat).toInt := ⟨_, rfl⟩
  have hr1 : -2147483648 ≤ x1 ∧ x1 < 2147483648 := by rw [hx1]; exact iI_rg _
  obtain ⟨x2, hx2⟩ : ∃ z_o, z_o = (xs (i_o + 2).toNat).toInt := ⟨_, rfl⟩
  have hr2 : -2147483648 ≤ x2 ∧ x2 < 2147483648 := by rw [hx2]; exact iI_rg _
  obtain ⟨x3, hx3⟩ : ∃ z_o, z_o = (xs (i_o + 3).toNat).toInt := ⟨_, rfl⟩
  have hr3 : -2147483648 ≤ x3 ∧ x3 < 2147483648 := by rw [hx3]; exact iI_rg _
  obtain ⟨x4, hx4⟩ : ∃ z_o, z_o = (xs (i_o + 4).toNat).toInt := ⟨_, rfl⟩
  have hr4 : -2147483648 ≤ x4 ∧ x4 < 2147483648 := by rw [hx4]; exact iI_rg _
  obtain ⟨fs19, h19_o⟩ := hmu.obj
  refine k_aload_n h_o 1 dL_law_1261 rfl rfl ?_
  refine k_aload_n h_o 0 dL_law_1262 rfl rfl ?_
  refine k_iload h_o 5 dL_law_1263 rfl ?_
  refine k_iconst h_o dL_law_1265 ?_
  refine k_iadd h_o dL_law_1266 ?_
  refine k_sld h_o hsr (x' := x1) (by omega) (by omega) hx1 dL_law_1267 ?_
  refine k_aload_n h_o 3 dL_law_1268 rfl rfl ?_
  refine k_callSWN (As := [.ref (ad 0), .int (iI x1), .ref aO]) (rest := []) h_o hNc mL_formatted kq_3_233 (c_L_formatted hl0 hst hr1 hO) rfl rfl (Nat.le_of_ble_eq_true rfl) ⟨rfl, rfl, ⟨(Nat.le_of_ble_eq_true rfl), (Nat.le_of_ble_eq_true rfl)⟩, ⟨by show _ ≤ 603072; omega, by show _ ≤ 7215210; omega⟩⟩ dL_law_1269 (kcI fun zH w1_o hp => ?_)
  rcases hp with ⟨rfl, z1_o, rfl, e1, hO1, hexP, hsu1⟩ | ⟨rfl, e1, hO1, hexP, hsu1⟩
  · have hmu1 := hmu.pl (hexP.sub kP7_Pw)
    obtain ⟨fs19P, h19P⟩ := hmu1.obj
    refine k_istore (lv' := [(6, .int (iI 0)), (0, .ref b_o), (1, .ref (ad 0)), (2, .ref (bd 25)), (3, .ref aO), (4, .ref aD), (5, .int (iI i_o))]) h_o dL_law_1272 (by decide) rfl ?_
    refine k_aload_n h_o 3 dL_law_1274 rfl rfl ?_
    refine k_aload_n h_o 1 dL_law_1275 rfl rfl ?_
    refine k_iload h_o 6 dL_law_1276 rfl ?_
    refine k_iconst h_o dL_law_1278 ?_
    refine k_iadd h_o dL_law_1279 ?_
    refine k_sld h_o hsr (x' := x1) (by omega) (by omega) hx1 dL_law_1280 ?_
    refine k_callV (As := [.int (iI x1)]) (rest := []) h_o mX7_formatted kq_5_119 (c_X7_formatted hl0 hmu1 hr1) 19 h19P rfl rfl rfl (Nat.le_of_ble_eq_true rfl) ⟨rfl, rfl, ⟨(Nat.le_of_ble_eq_true rfl), (Nat.le_of_ble_eq_true rfl)⟩, ⟨by show _ ≤ 603072; omega, by show _ ≤ 7215210; omega⟩⟩ dL_law_1281 (kcI fun zM w2_o hp => ?_)
    rcases hp with ⟨q1, rfl, hmu2, hexM⟩ | ⟨q1, hmu2, hexM⟩
    · obtain ⟨fs19M, h19M⟩ := hmu2.obj
      refine k_istore (lv' := [(7, .int (iI (m_ns (m_lay g_o nr (lts x1.toNat) (cs x1.toNat) kO0)))), (6, .int (iI 0)), (0, .ref b_o), (1, .ref (ad 0)), (2, .ref (bd 25)), (3, .ref aO), (4, .ref aD), (5, .int (iI i_o))]) h_o dL_law_1284 (by decide) rfl ?_
      refine k_aload_n h_o 4 dL_law_1286 rfl rfl ?_
      refine k_callV (As := []) (rest := []) h_o mX7_thrown kq_4_203 (c_X7_thrown hl0 hmu2) 19 h19M rfl rfl rfl (Nat.le_of_ble_eq_true rfl) ⟨rfl, rfl, ⟨(Nat.le_of_ble_eq_true rfl), (Nat.le_of_ble_eq_true rfl)⟩, ⟨by show _ ≤ 603072; omega, by show _ ≤ 7215210; omega⟩⟩ dL_law_1287 (kcI fun z1287_o w3_o hp => ?_)
      obtain ⟨rfl, rfl⟩ := hp
      refine k_iload h_o 1 dL_law_1290 rfl ?_
      refine k_icmpS h_o 1297 dL_law_1292 (by decide) ?_
      refine k_iload h_o 1 dL_law_1297 rfl ?_
      refine k_ifne h_o 1314 (by decide) dL_law_1299 (by decide) (fun h1299_o => ?_) (fun h1299_o => ?_)
      · exfalso; omega
      · refine k_aload_n h_o 5 dL_law_1302 rfl rfl ?_
        refine k_iconst h_o dL_law_1303 ?_
        refine k_lald h_o 17 ((hexM 17 (by show ¬ (19 ≤ 17 ∧ 17 ≤ 44); omega)).trans hO1) (by decide) (by decide) dL_law_1304 ?_
        refine k_topL (z' := m_w (m_ns (m_lay g_o nr (lts x1.toNat) (cs x1.toNat) kO0))) kup_eq ?_
        refine k_iload h_o 0 dL_law_1305 rfl ?_
        refine k_i2lW h_o dL_law_1307 ?_
        refine k_lcmpS h_o dL_law_1308 ?_
        refine k_ifeq h_o 1314 (by decide) dL_law_1309 (by decide) (fun h1309_o => ?_) (fun h1309_o => ?_)
        · refine k_goto h_o 1847 dL_law_1314 (by decide) ?_
          refine k_sub (lv' := [(0, .ref b_o), (1, .ref (ad 0)), (2, .ref (bd 25)), (3, .ref aO), (4, .ref aD), (5, .int (iI i_o))]) [2, 3, 4, 5, 6, 7] rfl ?_
          refine k_wd (k2 := k_o + 7) (n2 := n_o + 630) (by omega) (by omega) ?_
          exact kk _ ⟨_, bd, _, _, _, _, _, _, _, _, _, _, _, _, _, rfl, rfl, ((hexM 17 (by show ¬ (19 ≤ 17 ∧ 17 ≤ 44); omega)).trans hO1), ((hexM 18 (by show ¬ (19 ≤ 18 ∧ 18 ≤ 44); omega)).trans ((hexP 18 (by show ¬ (18 ≤ 17 ∨ 100 ≤ 18); omega)).trans hD)), (hsu1.ox (hexM.sub kMk_Ox)), hmu2⟩
        · exfalso; omega
    · exfalso; (first | omega | exact absurd q1 e1 | exact absurd e1 q1 | exact absurd q1.1 e1 | exact absurd e1 q1.1 | exact absurd e1.1 q1 | exact absurd q1 e1.1 | exact absurd e1.1 q1.1 | exact absurd q1.1 e1.1)
  · have hmu1 := hmu.pl (hexP.sub kP7_Pw)
    obtain ⟨fs19P, h19P⟩ := hmu1.obj
    refine k_istore (lv' := [(6, .int (iI 1)), (0, .ref b_o), (1, .ref (ad 0)), (2, .ref (bd 25)), (3, .ref aO), (4, .ref aD), (5, .int (iI i_o))]) h_o dL_law_1272 (by decide) rfl ?_
    refine k_aload_n h_o 3 dL_law_1274 rfl rfl ?_
    refine k_aload_n h_o 1 dL_law_1275 rfl rfl ?_
    refine k_iload h_o 6 dL_law_1276 rfl ?_
    refine k_iconst h_o dL_law_1278 ?_
    refine k_iadd h_o dL_law_1279 ?_
    refine k_sld h_o hsr (x' := x1) (by omega) (by omega) hx1 dL_law_1280 ?_
    refine k_callV (As := [.int (iI x1)]) (rest := []) h_o mX7_formatted kq_5_119 (c_X7_formatted hl0 hmu1 hr1) 19 h19P rfl rfl rfl (Nat.le_of_ble_eq_true rfl) ⟨rfl, rfl, ⟨(Nat.le_of_ble_eq_true rfl), (Nat.le_of_ble_eq_true rfl)⟩, ⟨by show _ ≤ 603072; omega, by show _ ≤ 7215210; omega⟩⟩ dL_law_1281 (kcI fun zM w2_o hp => ?_)
    rcases hp with ⟨q1, rfl, hmu2, hexM⟩ | ⟨q1, hmu2, hexM⟩
    · exfalso; (first | omega | exact absurd q1 e1 | exact absurd e1 q1 | exact absurd q1.1 e1 | exact absurd e1 q1.1 | exact absurd e1.1 q1 | exact absurd q1 e1.1 | exact absurd e1.1 q1.1 | exact absurd q1.1 e1.1)
    · obtain ⟨fs19M, h19M⟩ := hmu2.obj
      refine k_istore (lv' := [(7, .int (iI zM)), (6, .int (iI 1)), (0, .ref b_o), (1, .ref (ad 0)), (2, .ref (bd 25)), (3, .ref aO), (4, .ref aD), (5, .int (iI i_o))]) h_o dL_law_1284 (by decide) rfl ?_
      refine k_aload_n h_o 4 dL_law_1286 rfl rfl ?_
      refine k_callV (As := []) (rest := []) h_o mX7_thrown kq_4_203 (c_X7_thrown hl0 hmu2) 19 h19M rfl rfl rfl (Nat.le_of_ble_eq_true rfl) ⟨rfl, rfl, ⟨(Nat.le_of_ble_eq_true rfl), (Nat.le_of_ble_eq_true rfl)⟩, ⟨by show _ ≤ 603072; omega, by show _ ≤ 7215210; omega⟩⟩ dL_law_1287 (kcI fun z1287_o w3_o hp => ?_)
      obtain ⟨rfl, rfl⟩ := hp
      refine k_iload h_o 1 dL_law_1290 rfl ?_
      refine k_icmpS h_o 1297 dL_law_1292 (by decide) ?_
      refine k_iload h_o 1 dL_law_1297 rfl ?_
      refine k_ifne h_o 1314 (by decide) dL_law_1299 (by decide) (fun h1299_o => ?_) (fun h1299_o => ?_)
      · refine k_goto h_o 1847 dL_law_1314 (by decide) ?_
        refine k_sub (lv' := [(0, .ref b_o), (1, .ref (ad 0)), (2, .ref (bd 25)), (3, .ref aO), (4, .ref aD), (5, .int (iI i_o))]) [2, 3, 4, 5, 6, 7] rfl ?_
        refine k_wd (k2 := k_o + 7) (n2 := n_o + 630) (by omega) (by omega) ?_
        exact kk _ ⟨_, bd, _, _, _, _, _, _, _, _, _, _, _, _, _, rfl, rfl, ((hexM 17 (by show ¬ (19 ≤ 17 ∧ 17 ≤ 44); omega)).trans hO1), ((hexM 18 (by show ¬ (19 ≤ 18 ∧ 18 ≤ 44); omega)).trans ((hexP 18 (by show ¬ (18 ≤ 17 ∨ 100 ≤ 18); omega)).trans hD)), (hsu1.ox (hexM.sub kMk_Ox)), hmu2⟩
      · exfalso; omega

set_option maxHeartbeats 4000000 in
set_option maxRecDepth 100000 in
theorem law_formattedAt {E_o : kE} {X_o : kX} {k_o n_o b_o L_o : Nat} {xs : Nat → Int32} (hl0 : (kXl X_o).stackTraces = false) (h_o : kOk E_o X_o code RL 9 room_1) (hNc : kNc (kXs X_o)) (hsr : kSr E_o X_o b_o L_o xs) (hL : L_o ≤ 2560) {i_o : Int} (hi_o : 0 ≤ i_o ∧ i_o + 5 ≤ (L_o : Int)) (hk : k_o + 7 ≤ 603072) (hn : n_o + 630 ≤ 7215210) {w_o : kW} {ad : Nat → Nat} {nr : Nat} {g_o : Nat → Nat → Int} {T_o : Nat} {lts : Nat → Nat → Int} {cs : Nat → Int} {acs : Nat → Nat → Int} {ams : Nat → Int} {rel fnd : Int} {Ns : Nat → Nat → Nat} {bd : Nat → Nat} {th : Int} {aO aD : Nat} {fO : Nat → Int} {fD : Nat → UInt64} (hO : w_o 17 = some (aO, al 1 fO)) (hD : w_o 18 = some (aD, kDl 1 fD)) (hst : kSu w_o ad nr g_o T_o lts cs acs ams rel fnd Ns) (hmu : kMu w_o bd nr g_o T_o lts cs acs ams rel fnd th) (kk : ∀ w2_o : kW, kLI w2_o (ad 0) (bd 25) aO aD → kG E_o X_o 9 (k_o + 7) (n_o + 630) w2_o 1847 [(0, .ref b_o), (1, .ref (ad 0)), (2, .ref (bd 25)), (3, .ref aO), (4, .ref aD), (5, .int (iI i_o))] []) : kG E_o X_o 9 k_o n_o w_o 1317 [(0, .ref b_o), (1, .ref (ad 0)), (2, .ref (bd 25)), (3, .ref aO), (4, .ref aD), (5, .int (iI i_o))] [] := by
  obtain ⟨x1, hx1⟩ : ∃ z_o, z_o = (xs (i_o + 1).toNat).toInt := ⟨_, rfl⟩
  have hr1 : -2147483648 ≤ x1 ∧ x1 < 2147483648 := by rw [hx1]; exact iI_rg _
  obtain ⟨x2, hx2⟩ : ∃ z_o, z_o = (xs (i_o + 2).toNat).toInt := ⟨_, rfl⟩
  have hr2 : -2147483648 ≤ x2 ∧ x2 < 2147483648 := by rw [hx2]; exact iI_rg _
  obtain ⟨x3, hx3⟩ : ∃ z_o, z_o = (xs (i_o + 3).toNat).toInt := ⟨_, rfl⟩
  have hr3 : -2147483648 ≤ x3 ∧ x3 < 2147483648 := by rw [hx3]; exact iI_rg _
  obtain ⟨x4, hx4⟩ : ∃ z_o, z_o = (xs (i_o + 4).toNat).toInt := ⟨_, rfl⟩
  have hr4 : -2147483648 ≤ x4 ∧ x4 < 2147483648 := by rw [hx4]; exact iI_rg _
  obtain ⟨fs19, h19_o⟩ := hmu.obj
  refine k_aload_n h_o 1 dL_law_1317 rfl rfl ?_
  refine k_aload_n h_o 0 dL_law_1318 rfl rfl ?_
  refine k_iload h_o 5 dL_law_1319 rfl ?_
  refine k_iconst h_o dL_law_1321 ?_
  refine k_iadd h_o dL_law_1322 ?_
  refine k_sld h_o hsr (x' := x1) (by omega) (by omega) hx1 dL_law_1323 ?_
  refine k_aload_n h_o 0 dL_law_1324 rfl rfl ?_
  refine k_iload h_o 5 dL_law_1325 rfl ?_
  refine k_iconst h_o dL_law_1327 ?_
  refine k_iadd h_o dL_law_1328 ?_
  refine k_sld h_o hsr (x' := x2) (by omega) (by omega) hx2 dL_law_1329 ?_
  refine k_aload_n h_o 3 dL_law_1330 rfl rfl ?_
  refine k_callSWN (As := [.ref (ad 0), .int (iI x1), .int (iI x2), .ref aO]) (rest := []) h_o hNc mL_formattedAt kq_4_4 (c_L_formattedAt hl0 hst hr1 hr2 hO) rfl rfl (Nat.le_of_ble_eq_true rfl) ⟨rfl, rfl, ⟨(Nat.le_of_ble_eq_true rfl), (Nat.le_of_ble_eq_true rfl)⟩, ⟨by show _ ≤ 603072; omega, by show _ ≤ 7215210; omega⟩⟩ dL_law_1331 (kcI fun zH w1_o hp => ?_)
  rcases hp with ⟨rfl, z1_o, rfl, e1, e2, hO1, hexP, hsu1⟩ | ⟨rfl, e1, hO1, hexP, hsu1⟩ | ⟨rfl, e1, hO1, hexP, hsu1⟩
  · have hmu1 := hmu.pl (hexP.sub kP7_Pw)
    obtain ⟨fs19P, h19P⟩ := hmu1.obj
    refine k_istore (lv' := [(6, .int (iI 0)), (0, .ref b_o), (1, .ref (ad 0)), (2, .ref (bd 25)), (3, .ref aO), (4, .ref aD), (5, .int (iI i_o))]) h_o dL_law_1334 (by decide) rfl ?_
    refine k_aload_n h_o 3 dL_law_1336 rfl rfl ?_
    refine k_aload_n h_o 1 dL_law_1337 rfl rfl ?_
    refine k_iload h_o 6 dL_law_1338 rfl ?_
    refine k_iconst h_o dL_law_1340 ?_
    refine k_iadd h_o dL_law_1341 ?_
    refine k_sld h_o hsr (x' := x1) (by omega) (by omega) hx1 dL_law_1342 ?_
    refine k_aload_n h_o 1 dL_law_1343 rfl rfl ?_
    refine k_iload h_o 6 dL_law_1344 rfl ?_
    refine k_iconst h_o dL_law_1346 ?_
    refine k_iadd h_o dL_law_1347 ?_
    refine k_sld h_o hsr (x' := x2) (by omega) (by omega) hx2 dL_law_1348 ?_
    refine k_callV (As := [.int (iI x1), .int (iI x2)]) (rest := []) h_o mX7_formattedAt kq_5_123 (c_X7_formattedAt hl0 hmu1 hr1 hr2) 19 h19P rfl rfl rfl (Nat.le_of_ble_eq_true rfl) ⟨rfl, rfl, ⟨(Nat.le_of_ble_eq_true rfl), (Nat.le_of_ble_eq_true rfl)⟩, ⟨by show _ ≤ 603072; omega, by show _ ≤ 7215210; omega⟩⟩ dL_law_1349 (kcI fun zM w2_o hp => ?_)
    rcases hp with ⟨q1, rfl, hmu2, hexM⟩ | ⟨q1, hmu2, hexM⟩ | ⟨q1, hmu2, hexM⟩
    · obtain ⟨fs19M, h19M⟩ := hmu2.obj
      refine k_istore (lv' := [(7, .int (iI (m_sg (m_lay g_o nr (lts x1.toNat) (cs x1.toNat) kO0).2.2.2.1 (lts x1.toNat) x2 10 0 0))), (6, .int (iI 0)), (0, .ref b_o), (1, .ref (ad 0)), (2, .ref (bd 25)), (3, .ref aO), (4, .ref aD), (5, .int (iI i_o))]) h_o dL_law_1352 (by decide) rfl ?_
      refine k_aload_n h_o 4 dL_law_1354 rfl rfl ?_
      refine k_callV (As := []) (rest := []) h_o mX7_thrown kq_4_203 (c_X7_thrown hl0 hmu2) 19 h19M rfl rfl rfl (Nat.le_of_ble_eq_true rfl) ⟨rfl, rfl, ⟨(Nat.le_of_ble_eq_true rfl), (Nat.le_of_ble_eq_true rfl)⟩, ⟨by show _ ≤ 603072; omega, by show _ ≤ 7215210; omega⟩⟩ dL_law_1355 (kcI fun z1355_o w3_o hp => ?_)
      obtain ⟨rfl, rfl⟩ := hp
      refine k_iload h_o 1 dL_law_1358 rfl ?_
      refine k_icmpS h_o 1365 dL_law_1360 (by decide) ?_
      refine k_iload h_o 1 dL_law_1365 rfl ?_
      refine k_ifne h_o 1382 (by decide) dL_law_1367 (by decide) (fun h1367_o => ?_) (fun h1367_o => ?_)
      · exfalso; omega
      · refine k_aload_n h_o 5 dL_law_1370 rfl rfl ?_
        refine k_iconst h_o dL_law_1371 ?_
        refine k_lald h_o 17 ((hexM 17 (by show ¬ (19 ≤ 17 ∧ 17 ≤ 44); omega)).trans hO1) (by decide) (by decide) dL_law_1372 ?_
        refine k_topL (z' := m_w (m_sg (m_lay g_o nr (lts x1.toNat) (cs x1.toNat) kO0).2.2.2.1 (lts x1.toNat) x2 10 0 0)) kup_eq ?_
        refine k_iload h_o 0 dL_law_1373 rfl ?_
        refine k_i2lW h_o dL_law_1375 ?_
        refine k_lcmpS h_o dL_law_1376 ?_
        refine k_ifeq h_o 1382 (by decide) dL_law_1377 (by decide) (fun h1377_o => ?_) (fun h1377_o => ?_)
        · refine k_goto h_o 1847 dL_law_1382 (by decide) ?_
          refine k_sub (lv' := [(0, .ref b_o), (1, .ref (ad 0)), (2, .ref (bd 25)), (3, .ref aO), (4, .ref aD), (5, .int (iI i_o))]) [2, 3, 4, 5, 6, 7] rfl ?_
          refine k_wd (k2 := k_o + 7) (n2 := n_o + 630) (by omega) (by omega) ?_
          exact kk _ ⟨_, bd, _, _, _, _, _, _, _, _, _, _, _, _, _, rfl, rfl, ((hexM 17 (by show ¬ (19 ≤ 17 ∧ 17 ≤ 44); omega)).trans hO1), ((hexM 18 (by show ¬ (19 ≤ 18 ∧ 18 ≤ 44); omega)).trans ((hexP 18 (by show ¬ (18 ≤ 17 ∨ 100 ≤ 18); omega)).trans hD)), (hsu1.ox (hexM.sub kMk_Ox)), hmu2⟩
        · exfalso; omega
    · exfalso; (first | omega | exact absurd q1 e1 | exact absurd e1 q1 | exact absurd q1.1 e1 | exact absurd e1 q1.1 | exact absurd e1.1 q1 | exact absurd q1 e1.1 | exact absurd e1.1 q1.1 | exact absurd q1.1 e1.1)
    · exfalso; (first | omega | exact absurd q1 e1 | exact absurd e1 q1 | exact absurd q1.1 e1 | exact absurd e1 q1.1 | exact absurd e1.1 q1 | exact absurd q1 e1.1 | exact absurd e1.1 q1.1 | exact absurd q1.1 e1.1)
  · have hmu1 := hmu.pl (hexP.sub kP7_Pw)
    obtain ⟨fs19P, h19P⟩ := hmu1.obj
    refine k_istore (lv' := [(6, .int (iI 1)), (0, .ref b_o), (1, .ref (ad 0)), (2, .ref (bd 25)), (3, .ref aO), (4, .ref aD), (5, .int (iI i_o))]) h_o dL_law_1334 (by decide) rfl ?_
    refine k_aload_n h_o 3 dL_law_1336 rfl rfl ?_
    refine k_aload_n h_o 1 dL_law_1337 rfl rfl ?_
    refine k_iload h_o 6 dL_law_1338 rfl ?_
    refine k_iconst h_o dL_law_1340 ?_
    refine k_iadd h_o dL_law_1341 ?_
    refine k_sld h_o hsr (x' := x1) (by omega) (by omega) hx1 dL_law_1342 ?_
    refine k_aload_n h_o 1 dL_law_1343 rfl rfl ?_
    refine k_iload h_o 6 dL_law_1344 rfl ?_
    refine k_iconst h_o dL_law_1346 ?_
    refine k_iadd h_o dL_law_1347 ?_
    refine k_sld h_o hsr (x' := x2) (by omega) (by omega) hx2 dL_law_1348 ?_
    refine k_callV (As := [.int (iI x1), .int (iI x2)]) (rest := []) h_o mX7_formattedAt kq_5_123 (c_X7_formattedAt hl0 hmu1 hr1 hr2) 19 h19P rfl rfl rfl (Nat.le_of_ble_eq_true rfl) ⟨rfl, rfl, ⟨(Nat.le_of_ble_eq_true rfl), (Nat.le_of_ble_eq_true rfl)⟩, ⟨by show _ ≤ 603072; omega, by show _ ≤ 7215210; omega⟩⟩ dL_law_1349 (kcI fun zM w2_o hp => ?_)
    rcases hp with ⟨q1, rfl, hmu2, hexM⟩ | ⟨q1, hmu2, hexM⟩ | ⟨q1, hmu2, hexM⟩
    · exfalso; (first | omega | exact absurd q1 e1 | exact absurd e1 q1 | exact absurd q1.1 e1 | exact absurd e1 q1.1 | exact absurd e1.1 q1 | exact absurd q1 e1.1 | exact absurd e1.1 q1.1 | exact absurd q1.1 e1.1)
    · obtain ⟨fs19M, h19M⟩ := hmu2.obj
      refine k_istore (lv' := [(7, .int (iI zM)), (6, .int (iI 1)), (0, .ref b_o), (1, .ref (ad 0)), (2, .ref (bd 25)), (3, .ref aO), (4, .ref aD), (5, .int (iI i_o))]) h_o dL_law_1352 (by decide) rfl ?_
      refine k_aload_n h_o 4 dL_law_1354 rfl rfl ?_
      refine k_callV (As := []) (rest := []) h_o mX7_thrown kq_4_203 (c_X7_thrown hl0 hmu2) 19 h19M rfl rfl rfl (Nat.le_of_ble_eq_true rfl) ⟨rfl, rfl, ⟨(Nat.le_of_ble_eq_true rfl), (Nat.le_of_ble_eq_true rfl)⟩, ⟨by show _ ≤ 603072; omega, by show _ ≤ 7215210; omega⟩⟩ dL_law_1355 (kcI fun z1355_o w3_o hp => ?_)
      obtain ⟨rfl, rfl⟩ := hp
      refine k_iload h_o 1 dL_law_1358 rfl ?_
      refine k_icmpS h_o 1365 dL_law_1360 (by decide) ?_
      refine k_iload h_o 1 dL_law_1365 rfl ?_
      refine k_ifne h_o 1382 (by decide) dL_law_1367 (by decide) (fun h1367_o => ?_) (fun h1367_o => ?_)
      · refine k_goto h_o 1847 dL_law_1382 (by decide) ?_
        refine k_sub (lv' := [(0, .ref b_o), (1, .ref (ad 0)), (2, .ref (bd 25)), (3, .ref aO), (4, .ref aD), (5, .int (iI i_o))]) [2, 3, 4, 5, 6, 7] rfl ?_
        refine k_wd (k2 := k_o + 7) (n2 := n_o + 630) (by omega) (by omega) ?_
        exact kk _ ⟨_, bd, _, _, _, _, _, _, _, _, _, _, _, _, _, rfl, rfl, ((hexM 17 (by show ¬ (19 ≤ 17 ∧ 17 ≤ 44); omega)).trans hO1), ((hexM 18 (by show ¬ (19 ≤ 18 ∧ 18 ≤ 44); omega)).trans ((hexP 18 (by show ¬ (18 ≤ 17 ∨ 100 ≤ 18); omega)).trans hD)), (hsu1.ox (hexM.sub kMk_Ox)), hmu2⟩
      · exfalso; omega
    · exfalso; (first | omega | exact absurd q1 e1 | exact absurd e1 q1 | exact absurd q1.1 e1 | exact absurd e1 q1.1 | exact absurd e1.1 q1 | exact absurd q1 e1.1 | exact absurd e1.1 q1.1 | exact absurd q1.1 e1.1)
  · have hmu1 := hmu.pl (hexP.sub kP7_Pw)
    obtain ⟨fs19P, h19P⟩ := hmu1.obj
    refine k_istore (lv' := [(6, .int (iI 2)), (0, .ref b_o), (1, .ref (ad 0)), (2, .ref (bd 25)), (3, .ref aO), (4, .ref aD), (5, .int (iI i_o))]) h_o dL_law_1334 (by decide) rfl ?_
    refine k_aload_n h_o 3 dL_law_1336 rfl rfl ?_
    refine k_aload_n h_o 1 dL_law_1337 rfl rfl ?_
    refine k_iload h_o 6 dL_law_1338 rfl ?_
    refine k_iconst h_o dL_law_1340 ?_
    refine k_iadd h_o dL_law_1341 ?_
    refine k_sld h_o hsr (x' := x1) (by omega) (by omega) hx1 dL_law_1342 ?_
    refine k_aload_n h_o 1 dL_law_1343 rfl rfl ?_
    refine k_iload h_o 6 dL_law_1344 rfl ?_
    refine k_iconst h_o dL_law_1346 ?_
    refine k_iadd h_o dL_law_1347 ?_
    refine k_sld h_o hsr (x' := x2) (by omega) (by omega) hx2 dL_law_1348 ?_
    refine k_callV (As := [.int (iI x1), .int (iI x2)]) (rest := []) h_o mX7_formattedAt kq_5_123 (c_X7_formattedAt hl0 hmu1 hr1 hr2) 19 h19P rfl rfl rfl (Nat.le_of_ble_eq_true rfl) ⟨rfl, rfl, ⟨(Nat.le_of_ble_eq_true rfl), (Nat.le_of_ble_eq_true rfl)⟩, ⟨by show _ ≤ 603072; omega, by show _ ≤ 7215210; omega⟩⟩ dL_law_1349 (kcI fun zM w2_o hp => ?_)
    rcases hp with ⟨q1, rfl, hmu2, hexM⟩ | ⟨q1, hmu2, hexM⟩ | ⟨q1, hmu2, hexM⟩
    · exfalso; (first | omega | exact absurd q1 e1 | exact absurd e1 q1 | exact absurd q1.1 e1 | exact absurd e1 q1.1 | exact absurd e1.1 q1 | exact absurd q1 e1.1 | exact absurd e1.1 q1.1 | exact absurd q1.1 e1.1)
    · exfalso; (first | omega | exact absurd q1 e1 | exact absurd e1 q1 | exact absurd q1.1 e1 | exact absurd e1 q1.1 | exact absurd e1.1 q1 | exact absurd q1 e1.1 | exact absurd e1.1 q1.1 | exact absurd q1.1 e1.1)
    · obtain ⟨fs19M, h19M⟩ := hmu2.obj
      refine k_istore (lv' := [(7, .int (iI zM)), (6, .int (iI 2)), (0, .ref b_o), (1, .ref (ad 0)), (2, .ref (bd 25)), (3, .ref aO), (4, .ref aD), (5, .int (iI i_o))]) h_o dL_law_1352 (by decide) rfl ?_
      refine k_aload_n h_o 4 dL_law_1354 rfl rfl ?_
      refine k_callV (As := []) (rest := []) h_o mX7_thrown kq_4_203 (c_X7_thrown hl0 hmu2) 19 h19M rfl rfl rfl (Nat.le_of_ble_eq_true rfl) ⟨rfl, rfl, ⟨(Nat.le_of_ble_eq_true rfl), (Nat.le_of_ble_eq_true rfl)⟩, ⟨by show _ ≤ 603072; omega, by show _ ≤ 7215210; omega⟩⟩ dL_law_1355 (kcI fun z1355_o w3_o hp => ?_)
      obtain ⟨rfl, rfl⟩ := hp
      refine k_iload h_o 1 dL_law_1358 rfl ?_
      refine k_icmpS h_o 1365 dL_law_1360 (by decide) ?_
      refine k_iload h_o 1 dL_law_1365 rfl ?_
      refine k_ifne h_o 1382 (by decide) dL_law_1367 (by decide) (fun h1367_o => ?_) (fun h1367_o => ?_)
      · refine k_goto h_o 1847 dL_law_1382 (by decide) ?_
        refine k_sub (lv' := [(0, .ref b_o), (1, .ref (ad 0)), (2, .ref (bd 25)), (3, .ref aO), (4, .ref aD), (5, .int (iI i_o))]) [2, 3, 4, 5, 6, 7] rfl ?_
        refine k_wd (k2 := k_o + 7) (n2 := n_o + 630) (by omega) (by omega) ?_
        exact kk _ ⟨_, bd, _, _, _, _, _, _, _, _, _, _, _, _, _, rfl, rfl, ((hexM 17 (by show ¬ (19 ≤ 17 ∧ 17 ≤ 44); omega)).trans hO1), ((hexM 18 (by show ¬ (19 ≤ 18 ∧ 18 ≤ 44); omega)).trans ((hexP 18 (by show ¬ (18 ≤ 17 ∨ 100 ≤ 18); omega)).trans hD)), (hsu1.ox (hexM.sub kMk_Ox)), hmu2⟩
      · exfalso; omega
