set_option maxHeartbeats 4000000 in
set_option maxRecDepth 100000 in
theorem law_accept {E_o : kE} {X_o : kX} {k_o n_o b_o L_o : Nat} {xs : Nat → Int32} (hl0 : (kXl X_o).stackTraces = false) (h_o : kOk E_o X_o code RL 9 room_1) (hNc : kNc (kXs X_o)) (hsr : kSr E_o X_o b_o L_o xs) (hL : L_o ≤ 2560) {i_o : Int} (hi_o : 0 ≤ i_o ∧ i_o + 5 ≤ (L_o : Int)) (hk : k_o + 7 ≤ 603072) (hn : n_o + 630 ≤ 7215210) {w_o : kW} {ad : Nat → Nat} {nr : Nat} {g_o : Nat → Nat → Int} {T_o : Nat} {lts : Nat → Nat → Int} {cs : Nat → Int} {acs : Nat → Nat → Int} {ams : Nat → Int} {rel fnd : Int} {Ns : Nat → Nat → Nat} {bd : Nat → Nat} {th : Int} {aO aD : Nat} {fO : Nat → Int} {fD : Nat → UInt64} (hO : w_o 17 = some (aO, al 1 fO)) (hD : w_o 18 = some (aD, kDl 1 fD)) (hst : kSu w_o ad nr g_o T_o lts cs acs ams rel fnd Ns) (hmu : kMu w_o bd nr g_o T_o lts cs acs ams rel fnd th) (kk : ∀ w2_o : kW, kLI w2_o (ad 0) (bd 25) aO aD → kG E_o X_o 9 (k_o + 7) (n_o + 630) w2_o 1847 [(0, .ref b_o), (1, .ref (ad 0)), (2, .ref (bd 25)), (3, .ref aO), (4, .ref aD), (5, .int (iI i_o))] []) : kG E_o X_o 9 k_o n_o w_o 1385 [(0, .ref b_o), (1, .ref (ad 0)), (2, .ref (bd 25)), (3, .ref aO), (4, .ref aD), (5, .int (iI i_o))] [] := by
  obtain ⟨x1, hx1⟩ : ∃ z_o, z_o = (xs (i_o + 1).toNat).toInt := ⟨_, rfl⟩
  have hr1 : -2147483648 ≤ x1 ∧ x1 < 2147483648 := by rw [hx1]; exact iI_rg _
  obtain ⟨x2, hx2⟩ : ∃ z_o, z_o = (xs (i_o + 2).toNat).toInt := ⟨_, rfl⟩
  have hr2 : -2147483648 ≤ x2 ∧ x2 < 2147483648 := by rw [hx2]; exact iI_rg _
  obtain ⟨x3, hx3⟩ : ∃ z_o, z_o = (xs (i_o + 3).toNat).toInt := ⟨_, rfl⟩
  have hr3 : -2147483648 ≤ x3 ∧ x3 < 2147483648 := by rw [hx3]; exact iI_rg _
  obtain ⟨x4, hx4⟩ : ∃ z_o, z_o = (xs (i_o + 4).toNat).toInt := ⟨_, rfl⟩
  have hr4 : -2147483648 ≤ x4 ∧ x4 < 2147483648 := by rw [hx4]; exact iI_rg _
  obtain ⟨fs19, h19_o⟩ := hmu.obj
  refine k_aload_n h_o 1 dL_law_1385 rfl rfl ?_
  refine k_aload_n h_o 0 dL_law_1386 rfl rfl ?_
  refine k_iload h_o 5 dL_law_1387 rfl ?_
  refine k_iconst h_o dL_law_1389 ?_
  refine k_iadd h_o dL_law_1390 ?_
  refine k_sld h_o hsr (x' := x1) (by omega) (by omega) hx1 dL_law_1391 ?_
  refine k_aload_n h_o 3 dL_law_1392 rfl rfl ?_
  refine k_callSWN (As := [.ref (ad 0), .int (iI x1), .ref aO]) (rest := []) h_o hNc mL_accept kq_4_16 (c_L_accept hl0 hst hr1 hO) rfl rfl (Nat.le_of_ble_eq_true rfl) ⟨rfl, rfl, ⟨(Nat.le_of_ble_eq_true rfl), (Nat.le_of_ble_eq_true rfl)⟩, ⟨by show _ ≤ 603072; omega, by show _ ≤ 7215210; omega⟩⟩ dL_law_1393 (kcI fun zH w1_o hp => ?_)
  rcases hp with ⟨rfl, z1_o, rfl, e1, e2, hO1, hexP, ac2, e3, hsu1⟩ | ⟨rfl, e1, hO1, hexP, hsu1⟩ | ⟨rfl, e1, hO1, hexP, hsu1⟩
  · have hmu1 := hmu.pl (hexP.sub kP7_Pw)
    obtain ⟨fs19P, h19P⟩ := hmu1.obj
    refine k_istore (lv' := [(6, .int (iI 0)), (0, .ref b_o), (1, .ref (ad 0)), (2, .ref (bd 25)), (3, .ref aO), (4, .ref aD), (5, .int (iI i_o))]) h_o dL_law_1396 (by decide) rfl ?_
    refine k_aload_n h_o 3 dL_law_1398 rfl rfl ?_
    refine k_aload_n h_o 1 dL_law_1399 rfl rfl ?_
    refine k_iload h_o 6 dL_law_1400 rfl ?_
    refine k_iconst h_o dL_law_1402 ?_
    refine k_iadd h_o dL_law_1403 ?_
    refine k_sld h_o hsr (x' := x1) (by omega) (by omega) hx1 dL_law_1404 ?_
    refine k_callV (As := [.int (iI x1)]) (rest := []) h_o mX7_accept kq_5_127 (c_X7_accept hl0 hmu1 hr1 (ac2 := ac2) (fun _ _ => ⟨e3, hsu1.acr e1⟩)) 19 h19P rfl rfl rfl (Nat.le_of_ble_eq_true rfl) ⟨rfl, rfl, ⟨(Nat.le_of_ble_eq_true rfl), (Nat.le_of_ble_eq_true rfl)⟩, ⟨by show _ ≤ 603072; omega, by show _ ≤ 7215210; omega⟩⟩ dL_law_1405 (kcI fun zM w2_o hp => ?_)
    rcases hp with ⟨q1, rfl, hmu2, hexM⟩ | ⟨q1, hmu2, hexM⟩ | ⟨q1, hmu2, hexM⟩
    · obtain ⟨fs19M, h19M⟩ := hmu2.obj
      refine k_istore (lv' := [(7, .int (iI ((m_lay g_o nr (lts x1.toNat) (cs x1.toNat) kO0).1))), (6, .int (iI 0)), (0, .ref b_o), (1, .ref (ad 0)), (2, .ref (bd 25)), (3, .ref aO), (4, .ref aD), (5, .int (iI i_o))]) h_o dL_law_1408 (by decide) rfl ?_
      refine k_aload_n h_o 4 dL_law_1410 rfl rfl ?_
      refine k_callV (As := []) (rest := []) h_o mX7_thrown kq_4_203 (c_X7_thrown hl0 hmu2) 19 h19M rfl rfl rfl (Nat.le_of_ble_eq_true rfl) ⟨rfl, rfl, ⟨(Nat.le_of_ble_eq_true rfl), (Nat.le_of_ble_eq_true rfl)⟩, ⟨by show _ ≤ 603072; omega, by show _ ≤ 7215210; omega⟩⟩ dL_law_1411 (kcI fun z1411_o w3_o hp => ?_)
      obtain ⟨rfl, rfl⟩ := hp
      refine k_iload h_o 1 dL_law_1414 rfl ?_
      refine k_icmpS h_o 1421 dL_law_1416 (by decide) ?_
      refine k_iload h_o 1 dL_law_1421 rfl ?_
      refine k_ifne h_o 1438 (by decide) dL_law_1423 (by decide) (fun h1423_o => ?_) (fun h1423_o => ?_)
      · exfalso; omega
      · refine k_aload_n h_o 5 dL_law_1426 rfl rfl ?_
        refine k_iconst h_o dL_law_1427 ?_
        refine k_lald h_o 17 ((hexM 17 (by show ¬ (19 ≤ 17 ∧ 17 ≤ 44); omega)).trans hO1) (by decide) (by decide) dL_law_1428 ?_
        refine k_topL (z' := m_w ((m_lay g_o nr (lts x1.toNat) (cs x1.toNat) kO0).1)) kup_eq ?_
        refine k_iload h_o 0 dL_law_1429 rfl ?_
        refine k_i2lW h_o dL_law_1431 ?_
        refine k_lcmpS h_o dL_law_1432 ?_
        refine k_ifeq h_o 1438 (by decide) dL_law_1433 (by decide) (fun h1433_o => ?_) (fun h1433_o => ?_)
        · refine k_goto h_o 1847 dL_law_1438 (by decide) ?_
          refine k_sub (lv' := [(0, .ref b_o), (1, .ref (ad 0)), (2, .ref (bd 25)), (3, .ref aO), (4, .ref aD), (5, .int (iI i_o))]) [2, 3, 4, 5, 6, 7] rfl ?_
          refine k_wd (k2 := k_o + 7) (n2 := n_o + 630) (by omega) (by omega) ?_
          exact kk _ ⟨_, bd, _, _, _, _, _, _, _, _, _, _, _, _, _, rfl, rfl, ((hexM 17 (by show ¬ (19 ≤ 17 ∧ 17 ≤ 44); omega)).trans hO1), ((hexM 18 (by show ¬ (19 ≤ 18 ∧ 18 ≤ 44); omega)).trans ((hexP 18 (by show ¬ (18 ≤ 17 ∨ 100 ≤ 18); omega)).trans hD)), (hsu1.ox (hexM.sub kMk_Ox)), hmu2⟩
        · exfalso; omega
    · exfalso; (first | omega | exact absurd q1 e1 | exact absurd e1 q1 | exact absurd q1.1 e1 | exact absurd e1 q1.1 | exact absurd e1.1 q1 | exact absurd q1 e1.1 | exact absurd e1.1 q1.1 | exact absurd q1.1 e1.1)
    · exfalso; (first | omega | exact absurd q1 e1 | exact absurd e1 q1 | exact absurd q1.1 e1 | exact absurd e1 q1.1 | exact absurd e1.1 q1 | exact absurd q1 e1.1 | exact absurd e1.1 q1.1 | exact absurd q1.1 e1.1)
  · have hmu1 := hmu.pl (hexP.sub kP7_Pw)
    obtain ⟨fs19P, h19P⟩ := hmu1.obj
    refine k_istore (lv' := [(6, .int (iI 1)), (0, .ref b_o), (1, .ref (ad 0)), (2, .ref (bd 25)), (3, .ref aO), (4, .ref aD), (5, .int (iI i_o))]) h_o dL_law_1396 (by decide) rfl ?_
    refine k_aload_n h_o 3 dL_law_1398 rfl rfl ?_
    refine k_aload_n h_o 1 dL_law_1399 rfl rfl ?_
    refine k_iload h_o 6 dL_law_1400 rfl ?_
    refine k_iconst h_o dL_law_1402 ?_
    refine k_iadd h_o dL_law_1403 ?_
    refine k_sld h_o hsr (x' := x1) (by omega) (by omega) hx1 dL_law_1404 ?_
    refine k_callV (As := [.int (iI x1)]) (rest := []) h_o mX7_accept kq_5_127 (c_X7_accept hl0 hmu1 hr1 (ac2 := fun _ => 0) (fun q_o _ => absurd q_o e1)) 19 h19P rfl rfl rfl (Nat.le_of_ble_eq_true rfl) ⟨rfl, rfl, ⟨(Nat.le_of_ble_eq_true rfl), (Nat.le_of_ble_eq_true rfl)⟩, ⟨by show _ ≤ 603072; omega, by show _ ≤ 7215210; omega⟩⟩ dL_law_1405 (kcI fun zM w2_o hp => ?_)
    rcases hp with ⟨q1, rfl, hmu2, hexM⟩ | ⟨q1, hmu2, hexM⟩ | ⟨q1, hmu2, hexM⟩
    · exfalso; (first | omega | exact absurd q1 e1 | exact absurd e1 q1 | exact absurd q1.1 e1 | exact absurd e1 q1.1 | exact absurd e1.1 q1 | exact absurd q1 e1.1 | exact absurd e1.1 q1.1 | exact absurd q1.1 e1.1)
    · obtain ⟨fs19M, h19M⟩ := hmu2.obj
      refine k_istore (lv' := [(7, .int (iI zM)), (6, .int (iI 1)), (0, .ref b_o), (1, .ref (ad 0)), (2, .ref (bd 25)), (3, .ref aO), (4, .ref aD), (5, .int (iI i_o))]) h_o dL_law_1408 (by decide) rfl ?_
      refine k_aload_n h_o 4 dL_law_1410 rfl rfl ?_
      refine k_callV (As := []) (rest := []) h_o mX7_thrown kq_4_203 (c_X7_thrown hl0 hmu2) 19 h19M rfl rfl rfl (Nat.le_of_ble_eq_true rfl) ⟨rfl, rfl, ⟨(Nat.le_of_ble_eq_true rfl), (Nat.le_of_ble_eq_true rfl)⟩, ⟨by show _ ≤ 603072; omega, by show _ ≤ 7215210; omega⟩⟩ dL_law_1411 (kcI fun z1411_o w3_o hp => ?_)
      obtain ⟨rfl, rfl⟩ := hp
      refine k_iload h_o 1 dL_law_1414 rfl ?_
      refine k_icmpS h_o 1421 dL_law_1416 (by decide) ?_
      refine k_iload h_o 1 dL_law_1421 rfl ?_
      refine k_ifne h_o 1438 (by decide) dL_law_1423 (by decide) (fun h1423_o => ?_) (fun h1423_o => ?_)
      · refine k_goto h_o 1847 dL_law_1438 (by decide) ?_
        refine k_sub (lv' := [(0, .ref b_o), (1, .ref (ad 0)), (2, .ref (bd 25)), (3, .ref aO), (4, .ref aD), (5, .int (iI i_o))]) [2, 3, 4, 5, 6, 7] rfl ?_
        refine k_wd (k2 := k_o + 7) (n2 := n_o + 630) (by omega) (by omega) ?_
        exact kk _ ⟨_, bd, _, _, _, _, _, _, _, _, _, _, _, _, _, rfl, rfl, ((hexM 17 (by show ¬ (19 ≤ 17 ∧ 17 ≤ 44); omega)).trans hO1), ((hexM 18 (by show ¬ (19 ≤ 18 ∧ 18 ≤ 44); omega)).trans ((hexP 18 (by show ¬ (18 ≤ 17 ∨ 100 ≤ 18); omega)).trans hD)), (hsu1.ox (hexM.sub kMk_Ox)), hmu2⟩
      · exfalso; omega
    · exfalso; (first | omega | exact absurd q1 e1 | exact absurd e1 q1 | exact absurd q1.1 e1 | exact absurd e1 q1.1 | exact absurd e1.1 q1 | exact absurd q1 e1.1 | exact absurd e1.1 q1.1 | exact absurd q1.1 e1.1)
  · have hmu1 := hmu.pl (hexP.sub kP7_Pw)
    obtain ⟨fs19P, h19P⟩ := hmu1.obj
    refine k_istore (lv' := [(6, .int (iI 2)), (0, .ref b_o), (1, .ref (ad 0)), (2, .ref (bd 25)), (3, .ref aO), (4, .ref aD), (5, .int (iI i_o))]) h_o dL_law_1396 (by decide) rfl ?_
    refine k_aload_n h_o 3 dL_law_1398 rfl rfl ?_
    refine k_aload_n h_o 1 dL_law_1399 rfl rfl ?_
    refine k_iload h_o 6 dL_law_1400 rfl ?_
    refine k_iconst h_o dL_law_1402 ?_
    refine k_iadd h_o dL_law_1403 ?_
    refine k_sld h_o hsr (x' := x1) (by omega) (by omega) hx1 dL_law_1404 ?_
    refine k_callV (As := [.int (iI x1)]) (rest := []) h_o mX7_accept kq_5_127 (c_X7_accept hl0 hmu1 hr1 (ac2 := fun _ => 0) (fun _ q_o => absurd e1.2 q_o)) 19 h19P rfl rfl rfl (Nat.le_of_ble_eq_true rfl) ⟨rfl, rfl, ⟨(Nat.le_of_ble_eq_true rfl), (Nat.le_of_ble_eq_true rfl)⟩, ⟨by show _ ≤ 603072; omega, by show _ ≤ 7215210; omega⟩⟩ dL_law_1405 (kcI fun zM w2_o hp => ?_)
    rcases hp with ⟨q1, rfl, hmu2, hexM⟩ | ⟨q1, hmu2, hexM⟩ | ⟨q1, hmu2, hexM⟩
    · exfalso; (first | omega | exact absurd q1 e1 | exact absurd e1 q1 | exact absurd q1.1 e1 | exact absurd e1 q1.1 | exact absurd e1.1 q1 | exact absurd q1 e1.1 | exact absurd e1.1 q1.1 | exact absurd q1.1 e1.1)
    · exfalso; (first | omega | exact absurd q1 e1 | exact absurd e1 q1 | exact absurd q1.1 e1 | exact absurd e1 q1.1 | exact absurd e1.1 q1 | exact absurd q1 e1.1 | exact absurd e1.1 q1.1 | exact absurd q1.1 e1.1)
    · obtain ⟨fs19M, h19M⟩ := hmu2.obj
      refine k_istore (lv' := [(7, .int (iI zM)), (6, .int (iI 2)), (0, .ref b_o), (1, .ref (ad 0)), (2, .ref (bd 25)), (3, .ref aO), (4, .ref aD), (5, .int (iI i_o))]) h_o dL_law_1408 (by decide) rfl ?_
      refine k_aload_n h_o 4 dL_law_1410 rfl rfl ?_
      refine k_callV (As := []) (rest := []) h_o mX7_thrown kq_4_203 (c_X7_thrown hl0 hmu2) 19 h19M rfl rfl rfl (Nat.le_of_ble_eq_true rfl) ⟨rfl, rfl, ⟨(Nat.le_of_ble_eq_true rfl), (Nat.le_of_ble_eq_true rfl)⟩, ⟨by show _ ≤ 603072; omega, by show _ ≤ 7215210; omega⟩⟩ dL_law_1411 (kcI fun z1411_o w3_o hp => ?_)
      obtain ⟨rfl, rfl⟩ := hp
      refine k_iload h_o 1 dL_law_1414 rfl ?_
      refine k_icmpS h_o 1421 dL_law_1416 (by decide) ?_
      refine k_iload h_o 1 dL_law_1421 rfl ?_
      refine k_ifne h_o 1438 (by decide) dL_law_1423 (by decide) (fun h1423_o => ?_) (fun h1423_o => ?_)
      · refine k_goto h_o 1847 dL_law_1438 (by decide) ?_
        refine k_sub (lv' := [(0, .ref b_o), (1, .ref (ad 0)), (2, .ref (bd 25)), (3, .ref aO), (4, .ref aD), (5, .int (iI i_o))]) [2, 3, 4, 5, 6, 7] rfl ?_
        refine k_wd (k2 := k_o + 7) (n2 := n_o + 630) (by omega) (by omega) ?_
        exact kk _ ⟨_, bd, _, _, _, _, _, _, _, _, _, _, _, _, _, rfl, rfl, ((hexM 17 (by show ¬ (19 ≤ 17 ∧ 17 ≤ 44); omega)).trans hO1), ((hexM 18 (by show ¬ (19 ≤ 18 ∧ 18 ≤ 44); omega)).trans ((hexP 18 (by show ¬ (18 ≤ 17 ∨ 100 ≤ 18); omega)).trans hD)), (hsu1.ox (hexM.sub kMk_Ox)), hmu2⟩
      · exfalso; omega

set_option maxHeartbeats 4000000 in
set_option maxRecDepth 100000 in
theorem law_fault {E_o : kE} {X_o : kX} {k_o n_o b_o L_o : Nat} {xs : Nat → Int32} (hl0 : (kXl X_o).stackTraces = false) (h_o : kOk E_o X_o code RL 9 room_1) (hNc : kNc (kXs X_o)) (hsr : kSr E_o X_o b_o L_o xs) (hL : L_o ≤ 2560) {i_o : Int} (hi_o : 0 ≤ i_o ∧ i_o + 5 ≤ (L_o : Int)) (hk : k_o + 7 ≤ 603072) (hn : n_o + 630 ≤ 7215210) {w_o : kW} {ad : Nat → Nat} {nr : Nat} {g_o : Nat → Nat → Int} {T_o : Nat} {lts : Nat → Nat → Int} {cs : Nat → Int} {acs : Nat → Nat → Int} {ams : Nat → Int} {rel fnd : Int} {Ns : Nat → Nat → Nat} {bd : Nat → Nat} {th : Int} {aO aD : Nat} {fO : Nat → Int} {fD : Nat → UInt64} (hO : w_o 17 = some (aO, al 1 fO)) (hD : w_o 18 = some (aD, kDl 1 fD)) (hst : kSu w_o ad nr g_o T_o lts cs acs ams rel fnd Ns) (hmu : kMu w_o bd nr g_o T_o lts cs acs ams rel fnd th) (kk : ∀ w2_o : kW, kLI w2_o (ad 0) (bd 25) aO aD → kG E_o X_o 9 (k_o + 7) (n_o + 630) w2_o 1847 [(0, .ref b_o), (1, .ref (ad 0)), (2, .ref (bd 25)), (3, .ref aO), (4, .ref aD), (5, .int (iI i_o))] []) : kG E_o X_o 9 k_o n_o w_o 1441 [(0, .ref b_o), (1, .ref (ad 0)), (2, .ref (bd 25)), (3, .ref aO), (4, .ref aD), (5, .int (iI i_o))] [] := by
  obtain ⟨x1, hx1⟩ : ∃ z_o, z_o = (xs (i_o + 1).toNat).toInt := ⟨_, rfl⟩
  have hr1 : -2147483648 ≤ x1 ∧ x1 < 2147483648 := by rw [hx1]; exact iI_rg _
  obtain ⟨x2, hx2⟩ : ∃ z_o, z_o = (xs (i_o + 2).toNat).toInt := ⟨_, rfl⟩
  have hr2 : -2147483648 ≤ x2 ∧ x2 < 2147483648 := by rw [hx2]; exact iI_rg _
  obtain ⟨x3, hx3⟩ : ∃ z_o, z_o = (xs (i_o + 3).toNat).toInt := ⟨_, rfl⟩
  have hr3 : -2147483648 ≤ x3 ∧ x3 < 2147483648 := by rw [hx3]; exact iI_rg _
  obtain ⟨x4, hx4⟩ : ∃ z_o, z_o = (xs (i_o + 4).toNat).toInt := ⟨_, rfl⟩
  have hr4 : -2147483648 ≤ x4 ∧ x4 < 2147483648 := by rw [hx4]; exact iI_rg _
  obtain ⟨fs19, h19_o⟩ := hmu.obj
  refine k_aload_n h_o 1 dL_law_1441 rfl rfl ?_
  refine k_aload_n h_o 0 dL_law_1442 rfl rfl ?_
  refine k_iload h_o 5 dL_law_1443 rfl ?_
  refine k_iconst h_o dL_law_1445 ?_
  refine k_iadd h_o dL_law_1446 ?_
  refine k_sld h_o hsr (x' := x1) (by omega) (by omega) hx1 dL_law_1447 ?_
  refine k_aload_n h_o 3 dL_law_1448 rfl rfl ?_
  refine k_callSWN (As := [.ref (ad 0), .int (iI x1), .ref aO]) (rest := []) h_o hNc mL_fault kq_4_29 (c_L_fault hl0 hst hr1 hO) rfl rfl (Nat.le_of_ble_eq_true rfl) ⟨rfl, rfl, ⟨(Nat.le_of_ble_eq_true rfl), (Nat.le_of_ble_eq_true rfl)⟩, ⟨by show _ ≤ 603072; omega, by show _ ≤ 7215210; omega⟩⟩ dL_law_1449 (kcI fun zH w1_o hp => ?_)
  rcases hp with ⟨rfl, z1_o, rfl, e1, hO1, hexP, hsu1⟩ | ⟨rfl, e1, hO1, hexP, hsu1⟩
  · have hmu1 := hmu.pl (hexP.sub kP7_Pw)
    obtain ⟨fs19P, h19P⟩ := hmu1.obj
    refine k_istore (lv' := [(6, .int (iI 0)), (0, .ref b_o), (1, .ref (ad 0)), (2, .ref (bd 25)), (3, .ref aO), (4, .ref aD), (5, .int (iI i_o))]) h_o dL_law_1452 (by decide) rfl ?_
    refine k_aload_n h_o 3 dL_law_1454 rfl rfl ?_
    refine k_aload_n h_o 1 dL_law_1455 rfl rfl ?_
    refine k_iload h_o 6 dL_law_1456 rfl ?_
    refine k_iconst h_o dL_law_1458 ?_
    refine k_iadd h_o dL_law_1459 ?_
    refine k_sld h_o hsr (x' := x1) (by omega) (by omega) hx1 dL_law_1460 ?_
    refine k_callV (As := [.int (iI x1)]) (rest := []) h_o mX7_fault kq_5_131 (c_X7_fault hl0 hmu1 hr1) 19 h19P rfl rfl rfl (Nat.le_of_ble_eq_true rfl) ⟨rfl, rfl, ⟨(Nat.le_of_ble_eq_true rfl), (Nat.le_of_ble_eq_true rfl)⟩, ⟨by show _ ≤ 603072; omega, by show _ ≤ 7215210; omega⟩⟩ dL_law_1461 (kcI fun zM w2_o hp => ?_)
    rcases hp with ⟨q1, rfl, hmu2, hexM⟩ | ⟨q1, hmu2, hexM⟩
    · obtain ⟨fs19M, h19M⟩ := hmu2.obj
      refine k_istore (lv' := [(7, .int (iI (m_fv g_o nr (lts x1.toNat) (cs x1.toNat) (acs x1.toNat) (ams x1.toNat)))), (6, .int (iI 0)), (0, .ref b_o), (1, .ref (ad 0)), (2, .ref (bd 25)), (3, .ref aO), (4, .ref aD), (5, .int (iI i_o))]) h_o dL_law_1464 (by decide) rfl ?_
      refine k_aload_n h_o 4 dL_law_1466 rfl rfl ?_
      refine k_callV (As := []) (rest := []) h_o mX7_thrown kq_4_203 (c_X7_thrown hl0 hmu2) 19 h19M rfl rfl rfl (Nat.le_of_ble_eq_true rfl) ⟨rfl, rfl, ⟨(Nat.le_of_ble_eq_true rfl), (Nat.le_of_ble_eq_true rfl)⟩, ⟨by show _ ≤ 603072; omega, by show _ ≤ 7215210; omega⟩⟩ dL_law_1467 (kcI fun z1467_o w3_o hp => ?_)
      obtain ⟨rfl, rfl⟩ := hp
      refine k_iload h_o 1 dL_law_1470 rfl ?_
      refine k_icmpS h_o 1477 dL_law_1472 (by decide) ?_
      refine k_iload h_o 1 dL_law_1477 rfl ?_
      refine k_ifne h_o 1494 (by decide) dL_law_1479 (by decide) (fun h1479_o => ?_) (fun h1479_o => ?_)
      · exfalso; omega
      · refine k_aload_n h_o 5 dL_law_1482 rfl rfl ?_
        refine k_iconst h_o dL_law_1483 ?_
        refine k_lald h_o 17 ((hexM 17 (by show ¬ (19 ≤ 17 ∧ 17 ≤ 44); omega)).trans hO1) (by decide) (by decide) dL_law_1484 ?_
        refine k_topL (z' := m_w (m_fv g_o nr (lts x1.toNat) (cs x1.toNat) (acs x1.toNat) (ams x1.toNat))) kup_eq ?_
        refine k_iload h_o 0 dL_law_1485 rfl ?_
        refine k_i2lW h_o dL_law_1487 ?_
        refine k_lcmpS h_o dL_law_1488 ?_
        refine k_ifeq h_o 1494 (by decide) dL_law_1489 (by decide) (fun h1489_o => ?_) (fun h1489_o => ?_)
        · refine k_goto h_o 1847 dL_law_1494 (by decide) ?_
          refine k_sub (lv' := [(0, .ref b_o), (1, .ref (ad 0)), (2, .ref (bd 25)), (3, .ref aO), (4, .ref aD), (5, .int (iI i_o))]) [2, 3, 4, 5, 6, 7] rfl ?_
          refine k_wd (k2 := k_o + 7) (n2 := n_o + 630) (by omega) (by omega) ?_
          exact kk _ ⟨_, bd, _, _, _, _, _, _, _, _, _, _, _, _, _, rfl, rfl, ((hexM 17 (by show ¬ (19 ≤ 17 ∧ 17 ≤ 44); omega)).trans hO1), ((hexM 18 (by show ¬ (19 ≤ 18 ∧ 18 ≤ 44); omega)).trans ((hexP 18 (by show ¬ (18 ≤ 17 ∨ 100 ≤ 18); omega)).trans hD)), (hsu1.ox (hexM.sub kMk_Ox)), hmu2⟩
        · exfalso; omega
    · exfalso; (first | omega | exact absurd q1 e1 | exact absurd e1 q1 | exact absurd q1.1 e1 | exact absurd e1 q1.1 | exact absurd e1.1 q1 | exact absurd q1 e1.1 | exact absurd e1.1 q1.1 | exact absurd q1.1 e1.1)
  · have hmu1 := hmu.pl (hexP.sub kP7_Pw)
    obtain ⟨fs19P, h19P⟩ := hmu1.obj
    refine k_istore (lv' := [(6, .int (iI 1)), (0, .ref b_o), (1, .ref (ad 0)), (2, .ref (bd 25)), (3, .ref aO), (4, .ref aD), (5, .int (iI i_o))]) h_o dL_law_1452 (by decide) rfl ?_
    refine k_aload_n h_o 3 dL_law_1454 rfl rfl ?_
    refine k_aload_n h_o 1 dL_law_1455 rfl rfl ?_
    refine k_iload h_o 6 dL_law_1456 rfl ?_
    refine k_iconst h_o dL_law_1458 ?_
    refine k_iadd h_o dL_law_1459 ?_
    refine k_sld h_o hsr (x' := x1) (by omega) (by omega) hx1 dL_law_1460 ?_
    refine k_callV (As := [.int (iI x1)]) (rest := []) h_o mX7_fault kq_5_131 (c_X7_fault hl0 hmu1 hr1) 19 h19P rfl rfl rfl (Nat.le_of_ble_eq_true rfl) ⟨rfl, rfl, ⟨(Nat.le_of_ble_eq_true rfl), (Nat.le_of_ble_eq_true rfl)⟩, ⟨by show _ ≤ 603072; omega, by show _ ≤ 7215210; omega⟩⟩ dL_law_1461 (kcI fun zM w2_o hp => ?_)
    rcases hp with ⟨q1, rfl, hmu2, hexM⟩ | ⟨q1, hmu2, hexM⟩
    · exfalso; (first | omega | exact absurd q1 e1 | exact absurd e1 q1 | exact absurd q1.1 e1 | exact absurd e1 q1.1 | exact absurd e1.1 q1 | exact absurd q1 e1.1 | exact absurd e1.1 q1.1 | exact absurd q1.1 e1.1)
    · obtain ⟨fs19M, h19M⟩ := hmu2.obj
      refine k_istore (lv' := [(7, .int (iI zM)), (6, .int (iI 1)), (0, .ref b_o), (1, .ref (ad 0)), (2, .ref (bd 25)), (3, .ref aO), (4, .ref aD), (5, .int (iI i_o))]) h_o dL_law_1464 (by decide) rfl ?_
      refine k_aload_n h_o 4 dL_law_1466 rfl rfl ?_
      refine k_callV (As := []) (rest := []) h_o mX7_thrown kq_4_203 (c_X7_thrown hl0 hmu2) 19 h19M rfl rfl rfl (Nat.le_of_ble_eq_true rfl) ⟨rfl, rfl, ⟨(Nat.le_of_ble_eq_true rfl), (Nat.le_of_ble_eq_true rfl)⟩, ⟨by show _ ≤ 603072; omega, by show _ ≤ 7215210; omega⟩⟩ dL_law_1467 (kcI fun z1467_o w3_o hp => ?_)
      obtain ⟨rfl, rfl⟩ := hp
      refine k_iload h_o 1 dL_law_1470 rfl ?_
      refine k_icmpS h_o 1477 dL_law_1472 (by decide) ?_
      refine k_iload h_o 1 dL_law_1477 rfl ?_
      refine k_ifne h_o 1494 (by decide) dL_law_1479 (by decide) (fun h1479_o => ?_) (fun h1479_o => ?_)
      · refine k_goto h_o 1847 dL_law_1494 (by decide) ?_
        refine k_sub (lv' := [(0, .ref b_o), (1, .ref (ad 0)), (2, .ref (bd 25)), (3, .ref aO), (4, .ref aD), (5, .int (iI i_o))]) [2, 3, 4, 5, 6, 7] rfl ?_
        refine k_wd (k2 := k_o + 7) (n2 := n_o + 630) (by omega) (by omega) ?_
        exact kk _ ⟨_, bd, _, _, _, _, _, _, _, _, _, _, _, _, _, rfl, rfl, ((hexM 17 (by show ¬ (19 ≤ 17 ∧ 17 ≤ 44); omega)).trans hO1), ((hexM 18 (by show ¬ (19 ≤ 18 ∧ 18 ≤ 44); omega)).trans ((hexP 18 (by show ¬ (18 ≤ 17 ∨ 100 ≤ 18); omega)).trans hD)), (hsu1.ox (hexM.sub kMk_Ox)), hmu2⟩
      · exfalso; omega

set_option maxHeartbeats 4000000 in
set_option maxRecDepth 100000 in
theorem law_release {E_o : kE} {X_o : kX} {k_o n_o b_o L_o : Nat} {xs : Nat → Int32} (hl0 : (kXl X_o).stackTraces = false) (h_o : kOk E_o X_o code RL 9 room_1) (hNc : kNc (kXs X_o)) (hsr : kSr E_o X_o b_o L_o xs) (hL : L_o ≤ 2560) {i_o : Int} (hi_o : 0 ≤ i_o ∧ i_o + 5 ≤ (L_o : Int)) (hk : k_o + 7 ≤ 603072) (hn : n_o + 630 ≤ 7215210) {w_o : kW} {ad : Nat → Nat} {nr : Nat} {g_o : Nat → Nat → Int} {T_o : Nat} {lts : Nat → Nat → Int} {cs : Nat → Int} {acs : Nat → Nat → Int} {ams : Nat → Int} {rel fnd : Int} {Ns : Nat → Nat → Nat} {bd : Nat → Nat} {th : Int} {aO aD : Nat} {fO : Nat → Int} {fD : Nat → UInt64} (hO : w_o 17 = some (aO, al 1 fO)) (hD : w_o 18 = some (aD, kDl 1 fD)) (hst : kSu w_o ad nr g_o T_o lts cs acs ams rel fnd Ns) (hmu : kMu w_o bd nr g_o T_o lts cs acs ams rel fnd th) (kk : ∀ w2_o : kW, kLI w2_o (ad 0) (bd 25) aO aD → kG E_o X_o 9 (k_o + 7) (n_o + 630) w2_o 1847 [(0, .ref b_o), (1, .ref (ad 0)), (2, .ref (bd 25)), (3, .ref aO), (4, .ref aD), (5, .int (iI i_o))] []) : kG E_o X_o 9 k_o n_o w_o 1497 [(0, .ref b_o), (1, .ref (ad 0)), (2, .ref (bd 25)), (3, .ref aO), (4, .ref aD), (5, .int (iI i_o))] [] := by
  obtain ⟨x1, hx1⟩ : ∃ z_o, z_o = (xs (i_o + 1).toNat).toInt := ⟨_, rfl⟩
  have hr1 : -2147483648 ≤ x1 ∧ x1 < 2147483648 := by rw [hx1]; exact iI_rg _
  obtain ⟨x2, hx2⟩ : ∃ z_o, z_o = (xs (i_o + 2).toNat).toInt := ⟨_, rfl⟩
  have hr2 : -2147483648 ≤ x2 ∧ x2 < 2147483648 := by rw [hx2]; exact iI_rg _
  obtain ⟨x3, hx3⟩ : ∃ z_o, z_o = (xs (i_o + 3).toNat).toInt := ⟨_, rfl⟩
  have hr3 : -2147483648 ≤ x3 ∧ x3 < 2147483648 := by rw [hx3]; exact iI_rg _
  obtain ⟨x4, hx4⟩ : ∃ z_o, z_o = (xs (i_o + 4).toNat).toInt := ⟨_, rfl⟩
  have hr4 : -2147483648 ≤ x4 ∧ x4 < 2147483648 := by rw [hx4]; exact iI_rg _
  obtain ⟨fs19, h19_o⟩ := hmu.obj
  refine k_aload_n h_o 1 dL_law_1497 rfl rfl ?_
  refine k_aload_n h_o 3 dL_law_1498 rfl rfl ?_
  refine k_callSWN (As := [.ref (ad 0), .ref aO]) (rest := []) h_o hNc mL_release kq_4_44 (c_L_release hl0 hst  hO) rfl rfl (Nat.le_of_ble_eq_true rfl) ⟨rfl, rfl, ⟨(Nat.le_of_ble_eq_true rfl), (Nat.le_of_ble_eq_true rfl)⟩, ⟨by show _ ≤ 603072; omega, by show _ ≤ 7215210; omega⟩⟩ dL_law_1499 (kcI fun zH w1_o hp => ?_)
  rcases hp with ⟨rfl, z1_o, rfl, e1, hO1, hexP, hsu1⟩ | ⟨rfl, e1, hO1, hexP, hsu1⟩ | ⟨rfl, e1, hO1, hexP, hsu1⟩
  · have hmu1 := hmu.pl (hexP.sub kP7_Pw)
    obtain ⟨fs19P, h19P⟩ := hmu1.obj
    refine k_istore (lv' := [(6, .int (iI 0)), (0, .ref b_o), (1, .ref (ad 0)), (2, .ref (bd 25)), (3, .ref aO), (4, .ref aD), (5, .int (iI i_o))]) h_o dL_law_1502 (by decide) rfl ?_
    refine k_aload_n h_o 3 dL_law_1504 rfl rfl ?_
    refine k_callV (As := []) (rest := []) h_o mX7_release kq_5_139 (c_X7_release hl0 hmu1) 19 h19P rfl rfl rfl (Nat.le_of_ble_eq_true rfl) ⟨rfl, rfl, ⟨(Nat.le_of_ble_eq_true rfl), (Nat.le_of_ble_eq_true rfl)⟩, ⟨by show _ ≤ 603072; omega, by show _ ≤ 7215210; omega⟩⟩ dL_law_1505 (kcI fun zM w2_o hp => ?_)
    rcases hp with ⟨q1, rfl, hmu2, hexM⟩ | ⟨q1, hmu2, hexM⟩ | ⟨q1, hmu2, hexM⟩
    · obtain ⟨fs19M, h19M⟩ := hmu2.obj
      refine k_istore (lv' := [(7, .int (iI (rel + 1))), (6, .int (iI 0)), (0, .ref b_o), (1, .ref (ad 0)), (2, .ref (bd 25)), (3, .ref aO), (4, .ref aD), (5, .int (iI i_o))]) h_o dL_law_1508 (by decide) rfl ?_
      refine k_aload_n h_o 4 dL_law_1510 rfl rfl ?_
      refine k_callV (As := []) (rest := []) h_o mX7_thrown kq_4_203 (c_X7_thrown hl0 hmu2) 19 h19M rfl rfl rfl (Nat.le_of_ble_eq_true rfl) ⟨rfl, rfl, ⟨(Nat.le_of_ble_eq_true rfl), (Nat.le_of_ble_eq_true rfl)⟩, ⟨by show _ ≤ 603072; omega, by show _ ≤ 7215210; omega⟩⟩ dL_law_1511 (kcI fun z1511_o w3_o hp => ?_)
      obtain ⟨rfl, rfl⟩ := hp
      refine k_iload h_o 1 dL_law_1514 rfl ?_
      refine k_icmpS h_o 1521 dL_law_1516 (by decide) ?_
      refine k_iload h_o 1 dL_law_1521 rfl ?_
      refine k_ifne h_o 1538 (by decide) dL_law_1523 (by decide) (fun h1523_o => ?_) (fun h1523_o => ?_)
      · exfalso; omega
      · refine k_aload_n h_o 5 dL_law_1526 rfl rfl ?_
        refine k_iconst h_o dL_law_1527 ?_
        refine k_lald h_o 17 ((hexM 17 (by show ¬ (19 ≤ 17 ∧ 17 ≤ 44); omega)).trans hO1) (by decide) (by decide) dL_law_1528 ?_
        refine k_topL (z' := m_w (rel + 1)) kup_eq ?_
        refine k_iload h_o 0 dL_law_1529 rfl ?_
        refine k_i2lW h_o dL_law_1531 ?_
        refine k_lcmpS h_o dL_law_1532 ?_
        refine k_ifeq h_o 1538 (by decide) dL_law_1533 (by decide) (fun h1533_o => ?_) (fun h1533_o => ?_)
        · refine k_goto h_o 1847 dL_law_1538 (by decide) ?_
          refine k_sub (lv' := [(0, .ref b_o), (1, .ref (ad 0)), (2, .ref (bd 25)), (3, .ref aO), (4, .ref aD), (5, .int (iI i_o))]) [2, 3, 4, 5, 6, 7] rfl ?_
          refine k_wd (k2 := k_o + 7) (n2 := n_o + 630) (by omega) (by omega) ?_
          exact kk _ ⟨_, bd, _, _, _, _, _, _, _, _, _, _, _, _, _, rfl, rfl, ((hexM 17 (by show ¬ (19 ≤ 17 ∧ 17 ≤ 44); omega)).trans hO1), ((hexM 18 (by show ¬ (19 ≤ 18 ∧ 18 ≤ 44); omega)).trans ((hexP 18 (by show ¬ (18 ≤ 17 ∨ 100 ≤ 18); omega)).trans hD)), (hsu1.ox (hexM.sub kMk_Ox)), hmu2⟩
        · exfalso; omega
    · exfalso; (first | omega | exact absurd q1 e1 | exact absurd e1 q1 | exact absurd q1.1 e1 | exact absurd e1 q1.1 | exact absurd e1.1 q1 | exact absurd q1 e1.1 | exact absurd e1.1 q1.1 | exact absurd q1.1 e1.1)
    · exfalso; (first | omega | exact absurd q1 e1 | exact absurd e1 q1 | exact absurd q1.1 e1 | exact absurd e1 q1.1 | exact absurd e1.1 q1 | exact absurd q1 e1.1 | exact absurd e1.1 q1.1 | exact absurd q1.1 e1.1)
  · have hmu1 := hmu.pl (hexP.sub kP7_Pw)
    obtain ⟨fs19P, h19P⟩ := hmu1.obj
    refine k_istore (lv' := [(6, .int (iI 1)), (0, .ref b_o), (1, .ref (ad 0)), (2, .ref (bd 25)), (3, .ref aO), (4, .ref aD), (5, .int (iI i_o))]) h_o dL_law_1502 (by decide) rfl ?_
    refine k_aload_n h_o 3 dL_law_1504 rfl rfl ?_
    refine k_callV (As := []) (rest := []) h_o mX7_release kq_5_139 (c_X7_release hl0 hmu1) 19 h19P rfl rfl rfl (Nat.le_of_ble_eq_true rfl) ⟨rfl, rfl, ⟨(Nat.le_of_ble_eq_true rfl), (Nat.le_of_ble_eq_true rfl)⟩, ⟨by show _ ≤ 603072; omega, by show _ ≤ 7215210; omega⟩⟩ dL_law_1505 (kcI fun zM w2_o hp => ?_)
    rcases hp with ⟨q1, rfl, hmu2, hexM⟩ | ⟨q1, hmu2, hexM⟩ | ⟨q1, hmu2, hexM⟩
    · exfalso; (first | omega | exact absurd q1 e1 | exact absurd e1 q1 | exact absurd q1.1 e1 | exact absurd e1 q1.1 | exact absurd e1.1 q1 | exact absurd q1 e1.1 | exact absurd e1.1 q1.1 | exact absurd q1.1 e1.1)
    · obtain ⟨fs19M, h19M⟩ := hmu2.obj
      refine k_istore (lv' := [(7, .int (iI zM)), (6, .int (iI 1)), (0, .ref b_o), (1, .ref (ad 0)), (2, .ref (bd 25)), (3, .ref aO), (4, .ref aD), (5, .int (iI i_o))]) h_o dL_law_1508 (by decide) rfl ?_
      refine k_aload_n h_o 4 dL_law_1510 rfl rfl ?_
      refine k_callV (As := []) (rest := []) h_o mX7_thrown kq_4_203 (c_X7_thrown hl0 hmu2) 19 h19M rfl rfl rfl (Nat.le_of_ble_eq_true rfl) ⟨rfl, rfl, ⟨(Nat.le_of_ble_eq_true rfl), (Nat.le_of_ble_eq_true rfl)⟩, ⟨by show _ ≤ 603072; omega, by show _ ≤ 7215210; omega⟩⟩ dL_law_1511 (kcI fun z1511_o w3_o hp => ?_)
      obtain ⟨rfl, rfl⟩ := hp
      refine k_iload h_o 1 dL_law_1514 rfl ?_
      refine k_icmpS h_o 1521 dL_law_1516 (by decide) ?_
      refine k_iload h_o 1 dL_law_1521 rfl ?_
      refine k_ifne h_o 1538 (by decide) dL_law_1523 (by decide) (fun h1523_o => ?_) (fun h1523_o => ?_)
      · refine k_goto h_o 1847 dL_law_1538 (by decide) ?_
        refine k_sub (lv' := [(0, .ref b_o), (1, .ref (ad 0)), (2, .ref (bd 25)), (3, .ref aO), (4, .ref aD), (5, .int (iI i_o))]) [2, 3, 4, 5, 6, 7] rfl ?_
        refine k_wd (k2 := k_o + 7) (n2 := n_o + 630) (by omega) (by omega) ?_
        exact kk _ ⟨_, bd, _, _, _, _, _, _, _, _, _, _, _, _, _, rfl, rfl, ((hexM 17 (by show ¬ (19 ≤ 17 ∧ 17 ≤ 44); omega)).trans hO1), ((hexM 18 (by show ¬ (19 ≤ 18 ∧ 18 ≤ 44); omega)).trans ((hexP 18 (by show ¬ (18 ≤ 17 ∨ 100 ≤ 18); omega)).trans hD)), (hsu1.ox (hexM.sub kMk_Ox)), hmu2⟩
      · exfalso; omega
    · exfalso; (first | omega | exact absurd q1 e1 | exact absurd e1 q1 | exact absurd q1.1 e1 | exact absurd e1 q1.1 | exact absurd e1.1 q1 | exact absurd q1 e1.1 | exact absurd e1.1 q1.1 | exact absurd q1.1 e1.1)
  · have hmu1 := hmu.pl (hexP.sub kP7_Pw)
    obtain ⟨fs19P, h19P⟩ := hmu1.obj
    refine k_istore (lv' := [(6, .int (iI 2)), (0, .ref b_o), (1, .ref (ad 0)), (2, .ref (bd 25)), (3, .ref aO), (4, .ref aD), (5, .int (iI i_o))]) h_o dL_law_1502 (by decide) rfl ?_
    refine k_aload_n h_o 3 dL_law_1504 rfl rfl ?_
    refine k_callV (As := []) (rest := []) h_o mX7_release kq_5_139 (c_X7_release hl0 hmu1) 19 h19P rfl rfl rfl (Nat.le_of_ble_eq_true rfl) ⟨rfl, rfl, ⟨(Nat.le_of_ble_eq_true rfl), (Nat.le_of_ble_eq_true rfl)⟩, ⟨by show _ ≤ 603072; omega, by show _ ≤ 7215210; omega⟩⟩ dL_law_1505 (kcI fun zM w2_o hp => ?_)
    rcases hp with ⟨q1, rfl, hmu2, hexM⟩ | ⟨q1, hmu2, hexM⟩ | ⟨q1, hmu2, hexM⟩
    · exfalso; (first | omega | exact absurd q1 e1 | exact absurd e1 q1 | exact absurd q1.1 e1 | exact absurd e1 q1.1 | exact absurd e1.1 q1 | exact absurd q1 e1.1 | exact absurd e1.1 q1.1 | exact absurd q1.1 e1.1)
    · exfalso; (first | omega | exact absurd q1 e1 | exact absurd e1 q1 | exact absurd q1.1 e1 | exact absurd e1 q1.1 | exact absurd e1.1 q1 | exact absurd q1 e1.1 | exact absurd e1.1 q1.1 | exact absurd q1.1 e1.1)
    · obtain ⟨fs19M, h19M⟩ := hmu2.obj
      refine k_istore (lv' := [(7, .int (iI zM)), (6, .int (iI 2)), (0, .ref b_o), (1, .ref (ad 0)), (2, .ref (bd 25)), (3, .ref aO), (4, .ref aD), (5, .int (iI i_o))]) h_o dL_law_1508 (by decide) rfl ?_
      refine k_aload_n h_o 4 dL_law_1510 rfl rfl ?_
      refine k_callV (As := []) (rest := []) h_o mX7_thrown kq_4_203 (c_X7_thrown hl0 hmu2) 19 h19M rfl rfl rfl (Nat.le_of_ble_eq_true rfl) ⟨rfl, rfl, ⟨(Nat.le_of_ble_eq_true rfl), (Nat.le_of_ble_eq_true rfl)⟩, ⟨by show _ ≤ 603072; omega, by show _ ≤ 7215210; omega⟩⟩ dL_law_1511 (kcI fun z1511_o w3_o hp => ?_)
      obtain ⟨rfl, rfl⟩ := hp
      refine k_iload h_o 1 dL_law_1514 rfl ?_
      refine k_icmpS h_o 1521 dL_law_1516 (by decide) ?_
      refine k_iload h_o 1 dL_law_1521 rfl ?_
      refine k_ifne h_o 1538 (by decide) dL_law_1523 (by decide) (fun h1523_o => ?_) (fun h1523_o => ?_)
      · refine k_goto h_o 1847 dL_law_1538 (by decide) ?_
        refine k_sub (lv' := [(0, .ref b_o), (1, .ref (ad 0)), (2, .ref (bd 25)), (3, .ref aO), (4, .ref aD), (5, .int (iI i_o))]) [2, 3, 4, 5, 6, 7] rfl ?_
        refine k_wd (k2 := k_o + 7) (n2 := n_o + 630) (by omega) (by omega) ?_
        exact kk _ ⟨_, bd, _, _, _, _, _, _, _, _, _, _, _, _, _, rfl, rfl, ((hexM 17 (by show ¬ (19 ≤ 17 ∧ 17 ≤ 44); omega)).trans hO1), ((hexM 18 (by show ¬ (19 ≤ 18 ∧ 18 ≤ 44); omega)).trans ((hexP 18 (by show ¬ (18 ≤ 17 ∨ 100 ≤ 18); omega)).trans hD)), (hsu1.ox (hexM.sub kMk_Ox)), hmu2⟩
      · exfalso; omega
