set_option maxHeartbeats 4000000 in
set_option maxRecDepth 100000 in
theorem law_ambiguous {E_o : kE} {X_o : kX} {k_o n_o b_o L_o : Nat} {xs : Nat → Int32} (hl0 : (kXl X_o).stackTraces = false) (h_o : kOk E_o X_o code RL 9 room_1) (hNc : kNc (kXs X_o)) (hsr : kSr E_o X_o b_o L_o xs) (hL : L_o ≤ 2560) {i_o : Int} (hi_o : 0 ≤ i_o ∧ i_o + 5 ≤ (L_o : Int)) (hk : k_o + 7 ≤ 603072) (hn : n_o + 630 ≤ 7215210) {w_o : kW} {ad : Nat → Nat} {nr : Nat} {g_o : Nat → Nat → Int} {T_o : Nat} {lts : Nat → Nat → Int} {cs : Nat → Int} {acs : Nat → Nat → Int} {ams : Nat → Int} {rel fnd : Int} {Ns : Nat → Nat → Nat} {bd : Nat → Nat} {th : Int} {aO aD : Nat} {fO : Nat → Int} {fD : Nat → UInt64} (hO : w_o 17 = some (aO, al 1 fO)) (hD : w_o 18 = some (aD, kDl 1 fD)) (hst : kSu w_o ad nr g_o T_o lts cs acs ams rel fnd Ns) (hmu : kMu w_o bd nr g_o T_o lts cs acs ams rel fnd th) (kk : ∀ w2_o : kW, kLI w2_o (ad 0) (bd 25) aO aD → kG E_o X_o 9 (k_o + 7) (n_o + 630) w2_o 1847 [(0, .ref b_o), (1, .ref (ad 0)), (2, .ref (bd 25)), (3, .ref aO), (4, .ref aD), (5, .int (iI i_o))] []) : kG E_o X_o 9 k_o n_o w_o 1541 [(0, .ref b_o), (1, .ref (ad 0)), (2, .ref (bd 25)), (3, .ref aO), (4, .ref aD), (5, .int (iI i_o))] [] := by
  obtain ⟨x1, hx1⟩ : ∃ z_o, z_o = (xs (i_o + 1).toNat).toInt := ⟨_, rfl⟩
  have hr1 : -2147483648 ≤ x1 ∧ x1 < 2147483648 := by rw [hx1]; exact iI_rg _
  obtain ⟨x2, hx2⟩ : ∃ z_o, z_o = (xs (i_o + 2).toNat).toInt := ⟨_, rfl⟩
  have hr2 : -2147483648 ≤ x2 ∧ x2 < 2147483648 := by rw [hx2]; exact iI_rg _
  obtain ⟨x3, hx3⟩ : ∃ z_o, z_o = (xs (i_o + 3).toNat).toInt := ⟨_, rfl⟩
  have hr3 : -2147483648 ≤ x3 ∧ x3 < 2147483648 := by rw [hx3]; exact iI_rg _
  obtain ⟨x4, hx4⟩ : ∃ z_o, z_o = (xs (i_o + 4).toNat).toInt := ⟨_, rfl⟩
  have hr4 : -2147483648 ≤ x4 ∧ x4 < 2147483648 := by rw [hx4]; exact iI_rg _
  obtain ⟨fs19, h19_o⟩ := hmu.obj
  refine k_aload_n h_o 1 dL_law_1541 rfl rfl ?_
  refine k_aload_n h_o 0 dL_law_1542 rfl rfl ?_
  refine k_iload h_o 5 dL_law_1543 rfl ?_
  refine k_iconst h_o dL_law_1545 ?_
  refine k_iadd h_o dL_law_1546 ?_
  refine k_sld h_o hsr (x' := x1) (by omega) (by omega) hx1 dL_law_1547 ?_
  refine k_aload_n h_o 0 dL_law_1548 rfl rfl ?_
  refine k_iload h_o 5 dL_law_1549 rfl ?_
  refine k_iconst h_o dL_law_1551 ?_
  refine k_iadd h_o dL_law_1552 ?_
  refine k_sld h_o hsr (x' := x2) (by omega) (by omega) hx2 dL_law_1553 ?_
  refine k_aload_n h_o 3 dL_law_1554 rfl rfl ?_
  refine k_callSWN (As := [.ref (ad 0), .int (iI x1), .int (iI x2), .ref aO]) (rest := []) h_o hNc mL_ambiguous kq_4_55 (c_L_ambiguous hl0 hst hr1 hr2 hO) rfl rfl (Nat.le_of_ble_eq_true rfl) ⟨rfl, rfl, ⟨(Nat.le_of_ble_eq_true rfl), (Nat.le_of_ble_eq_true rfl)⟩, ⟨by show _ ≤ 603072; omega, by show _ ≤ 7215210; omega⟩⟩ dL_law_1555 (kcI fun zH w1_o hp => ?_)
  rcases hp with ⟨rfl, z1_o, ⟨e1, n1, e2, e3⟩, hO1, hexP, hsu1⟩ | ⟨rfl, e1, hO1, hexP, hsu1⟩ | ⟨rfl, e1, hO1, hexP, hsu1⟩
  · have hmu1 := hmu.pl (hexP.sub kP7_Pw)
    obtain ⟨fs19P, h19P⟩ := hmu1.obj
    refine k_istore (lv' := [(6, .int (iI 0)), (0, .ref b_o), (1, .ref (ad 0)), (2, .ref (bd 25)), (3, .ref aO), (4, .ref aD), (5, .int (iI i_o))]) h_o dL_law_1558 (by decide) rfl ?_
    refine k_aload_n h_o 3 dL_law_1560 rfl rfl ?_
    refine k_aload_n h_o 1 dL_law_1561 rfl rfl ?_
    refine k_iload h_o 6 dL_law_1562 rfl ?_
    refine k_iconst h_o dL_law_1564 ?_
    refine k_iadd h_o dL_law_1565 ?_
    refine k_sld h_o hsr (x' := x1) (by omega) (by omega) hx1 dL_law_1566 ?_
    refine k_aload_n h_o 1 dL_law_1567 rfl rfl ?_
    refine k_iload h_o 6 dL_law_1568 rfl ?_
    refine k_iconst h_o dL_law_1570 ?_
    refine k_iadd h_o dL_law_1571 ?_
    refine k_sld h_o hsr (x' := x2) (by omega) (by omega) hx2 dL_law_1572 ?_
    refine k_callV (As := [.int (iI x1), .int (iI x2)]) (rest := []) h_o mX7_ambiguous kq_5_147 (c_X7_ambiguous hl0 hmu1 hr1 hr2) 19 h19P rfl rfl rfl (Nat.le_of_ble_eq_true rfl) ⟨rfl, rfl, ⟨(Nat.le_of_ble_eq_true rfl), (Nat.le_of_ble_eq_true rfl)⟩, ⟨by show _ ≤ 603072; omega, by show _ ≤ 7215210; omega⟩⟩ dL_law_1573 (kcI fun zM w2_o hp => ?_)
    rcases hp with ⟨⟨q1, n2, q2, q3⟩, hmu2, hexM⟩ | ⟨q1, hmu2, hexM⟩ | ⟨q1, hmu2, hexM⟩
    · obtain ⟨fs19M, h19M⟩ := hmu2.obj
      have hzz : z1_o = zM := by have := (m_ar_uq e2 q2).1; omega
      subst hzz
      refine k_istore (lv' := [(7, .int (iI z1_o)), (6, .int (iI 0)), (0, .ref b_o), (1, .ref (ad 0)), (2, .ref (bd 25)), (3, .ref aO), (4, .ref aD), (5, .int (iI i_o))]) h_o dL_law_1576 (by decide) rfl ?_
      refine k_aload_n h_o 4 dL_law_1578 rfl rfl ?_
      refine k_callV (As := []) (rest := []) h_o mX7_thrown kq_4_203 (c_X7_thrown hl0 hmu2) 19 h19M rfl rfl rfl (Nat.le_of_ble_eq_true rfl) ⟨rfl, rfl, ⟨(Nat.le_of_ble_eq_true rfl), (Nat.le_of_ble_eq_true rfl)⟩, ⟨by show _ ≤ 603072; omega, by show _ ≤ 7215210; omega⟩⟩ dL_law_1579 (kcI fun z1579_o w3_o hp => ?_)
      obtain ⟨rfl, rfl⟩ := hp
      refine k_iload h_o 1 dL_law_1582 rfl ?_
      refine k_icmpS h_o 1589 dL_law_1584 (by decide) ?_
      refine k_iload h_o 1 dL_law_1589 rfl ?_
      refine k_ifne h_o 1606 (by decide) dL_law_1591 (by decide) (fun h1591_o => ?_) (fun h1591_o => ?_)
      · exfalso; omega
      · refine k_aload_n h_o 5 dL_law_1594 rfl rfl ?_
        refine k_iconst h_o dL_law_1595 ?_
        refine k_lald h_o 17 ((hexM 17 (by show ¬ (19 ≤ 17 ∧ 17 ≤ 44); omega)).trans hO1) (by decide) (by decide) dL_law_1596 ?_
        refine k_topL (z' := m_w z1_o) kup_eq ?_
        refine k_iload h_o 0 dL_law_1597 rfl ?_
        refine k_i2lW h_o dL_law_1599 ?_
        refine k_lcmpS h_o dL_law_1600 ?_
        refine k_ifeq h_o 1606 (by decide) dL_law_1601 (by decide) (fun h1601_o => ?_) (fun h1601_o => ?_)
        · refine k_goto h_o 1847 dL_law_1606 (by decide) ?_
          refine k_sub (lv' := [(0, .ref b_o), (1, .ref (ad 0)), (2, .ref (bd 25)), (3, .ref aO), (4, .ref aD), (5, .int (iI i_o))]) [2, 3, 4, 5, 6, 7] rfl ?_
          refine k_wd (k2 := k_o + 7) (n2 := n_o + 630) (by omega) (by omega) ?_
          exact kk _ ⟨_, bd, _, _, _, _, _, _, _, _, _, _, _, _, _, rfl, rfl, ((hexM 17 (by show ¬ (19 ≤ 17 ∧ 17 ≤ 44); omega)).trans hO1), ((hexM 18 (by show ¬ (19 ≤ 18 ∧ 18 ≤ 44); omega)).trans ((hexP 18 (by show ¬ (18 ≤ 17 ∨ 100 ≤ 18); omega)).trans hD)), (hsu1.ox (hexM.sub kMk_Ox)), hmu2⟩
        · exfalso; omega
    · exfalso; (first | omega | exact absurd q1 e1 | exact absurd e1 q1 | exact absurd q1.1 e1 | exact absurd e1 q1.1 | exact absurd e1.1 q1 | exact absurd q1 e1.1 | exact absurd e1.1 q1.1 | exact absurd q1.1 e1.1)
    · exfalso; exact m_ar_an e2 q1.2
  · have hmu1 := hmu.pl (hexP.sub kP7_Pw)
    obtain ⟨fs19P, h19P⟩ := hmu1.obj
    refine k_istore (lv' := [(6, .int (iI 1)), (0, .ref b_o), (1, .ref (ad 0)), (2, .ref (bd 25)), (3, .ref aO), (4, .ref aD), (5, .int (iI i_o))]) h_o dL_law_1558 (by decide) rfl ?_
    refine k_aload_n h_o 3 dL_law_1560 rfl rfl ?_
    refine k_aload_n h_o 1 dL_law_1561 rfl rfl ?_
    refine k_iload h_o 6 dL_law_1562 rfl ?_
    refine k_iconst h_o dL_law_1564 ?_
    refine k_iadd h_o dL_law_1565 ?_
    refine k_sld h_o hsr (x' := x1) (by omega) (by omega) hx1 dL_law_1566 ?_
    refine k_aload_n h_o 1 dL_law_1567 rfl rfl ?_
    refine k_iload h_o 6 dL_law_1568 rfl ?_
    refine k_iconst h_o dL_law_1570 ?_
    refine k_iadd h_o dL_law_1571 ?_
    refine k_sld h_o hsr (x' := x2) (by omega) (by omega) hx2 dL_law_1572 ?_
    refine k_callV (As := [.int (iI x1), .int (iI x2)]) (rest := []) h_o mX7_ambiguous kq_5_147 (c_X7_ambiguous hl0 hmu1 hr1 hr2) 19 h19P rfl rfl rfl (Nat.le_of_ble_eq_true rfl) ⟨rfl, rfl, ⟨(Nat.le_of_ble_eq_true rfl), (Nat.le_of_ble_eq_true rfl)⟩, ⟨by show _ ≤ 603072; omega, by show _ ≤ 7215210; omega⟩⟩ dL_law_1573 (kcI fun zM w2_o hp => ?_)
    rcases hp with ⟨⟨q1, n2, q2, q3⟩, hmu2, hexM⟩ | ⟨q1, hmu2, hexM⟩ | ⟨q1, hmu2, hexM⟩
    · exfalso; (first | omega | exact absurd q1 e1 | exact absurd e1 q1 | exact absurd q1.1 e1 | exact absurd e1 q1.1 | exact absurd e1.1 q1 | exact absurd q1 e1.1 | exact absurd e1.1 q1.1 | exact absurd q1.1 e1.1)
    · obtain ⟨fs19M, h19M⟩ := hmu2.obj
      refine k_istore (lv' := [(7, .int (iI zM)), (6, .int (iI 1)), (0, .ref b_o), (1, .ref (ad 0)), (2, .ref (bd 25)), (3, .ref aO), (4, .ref aD), (5, .int (iI i_o))]) h_o dL_law_1576 (by decide) rfl ?_
      refine k_aload_n h_o 4 dL_law_1578 rfl rfl ?_
      refine k_callV (As := []) (rest := []) h_o mX7_thrown kq_4_203 (c_X7_thrown hl0 hmu2) 19 h19M rfl rfl rfl (Nat.le_of_ble_eq_true rfl) ⟨rfl, rfl, ⟨(Nat.le_of_ble_eq_true rfl), (Nat.le_of_ble_eq_true rfl)⟩, ⟨by show _ ≤ 603072; omega, by show _ ≤ 7215210; omega⟩⟩ dL_law_1579 (kcI fun z1579_o w3_o hp => ?_)
      obtain ⟨rfl, rfl⟩ := hp
      refine k_iload h_o 1 dL_law_1582 rfl ?_
      refine k_icmpS h_o 1589 dL_law_1584 (by decide) ?_
      refine k_iload h_o 1 dL_law_1589 rfl ?_
      refine k_ifne h_o 1606 (by decide) dL_law_1591 (by decide) (fun h1591_o => ?_) (fun h1591_o => ?_)
      · refine k_goto h_o 1847 dL_law_1606 (by decide) ?_
        refine k_sub (lv' := [(0, .ref b_o), (1, .ref (ad 0)), (2, .ref (bd 25)), (3, .ref aO), (4, .ref aD), (5, .int (iI i_o))]) [2, 3, 4, 5, 6, 7] rfl ?_
        refine k_wd (k2 := k_o + 7) (n2 := n_o + 630) (by omega) (by omega) ?_
        exact kk _ ⟨_, bd, _, _, _, _, _, _, _, _, _, _, _, _, _, rfl, rfl, ((hexM 17 (by show ¬ (19 ≤ 17 ∧ 17 ≤ 44); omega)).trans hO1), ((hexM 18 (by show ¬ (19 ≤ 18 ∧ 18 ≤ 44); omega)).trans ((hexP 18 (by show ¬ (18 ≤ 17 ∨ 100 ≤ 18); omega)).trans hD)), (hsu1.ox (hexM.sub kMk_Ox)), hmu2⟩
      · exfalso; omega
    · exfalso; (first | omega | exact absurd q1 e1 | exact absurd e1 q1 | exact absurd q1.1 e1 | exact absurd e1 q1.1 | exact absurd e1.1 q1 | exact absurd q1 e1.1 | exact absurd e1.1 q1.1 | exact absurd q1.1 e1.1)
  · have hmu1 := hmu.pl (hexP.sub kP7_Pw)
    obtain ⟨fs19P, h19P⟩ := hmu1.obj
    refine k_istore (lv' := [(6, .int (iI 2)), (0, .ref b_o), (1, .ref (ad 0)), (2, .ref (bd 25)), (3, .ref aO), (4, .ref aD), (5, .int (iI i_o))]) h_o dL_law_1558 (by decide) rfl ?_
    refine k_aload_n h_o 3 dL_law_1560 rfl rfl ?_
    refine k_aload_n h_o 1 dL_law_1561 rfl rfl ?_
    refine k_iload h_o 6 dL_law_1562 rfl ?_
    refine k_iconst h_o dL_law_1564 ?_
    refine k_iadd h_o dL_law_1565 ?_
    refine k_sld h_o hsr (x' := x1) (by omega) (by omega) hx1 dL_law_1566 ?_
    refine k_aload_n h_o 1 dL_law_1567 rfl rfl ?_
    refine k_iload h_o 6 dL_law_1568 rfl ?_
    refine k_iconst h_o dL_law_1570 ?_
    refine k_iadd h_o dL_law_1571 ?_
    refine k_sld h_o hsr (x' := x2) (by omega) (by omega) hx2 dL_law_1572 ?_
    refine k_callV (As := [.int (iI x1), .int (iI x2)]) (rest := []) h_o mX7_ambiguous kq_5_147 (c_X7_ambiguous hl0 hmu1 hr1 hr2) 19 h19P rfl rfl rfl (Nat.le_of_ble_eq_true rfl) ⟨rfl, rfl, ⟨(Nat.le_of_ble_eq_true rfl), (Nat.le_of_ble_eq_true rfl)⟩, ⟨by show _ ≤ 603072; omega, by show _ ≤ 7215210; omega⟩⟩ dL_law_1573 (kcI fun zM w2_o hp => ?_)
    rcases hp with ⟨⟨q1, n2, q2, q3⟩, hmu2, hexM⟩ | ⟨q1, hmu2, hexM⟩ | ⟨q1, hmu2, hexM⟩
    · exfalso; exact m_ar_an q2 e1.2
    · exfalso; (first | omega | exact absurd q1 e1 | exact absurd e1 q1 | exact absurd q1.1 e1 | exact absurd e1 q1.1 | exact absurd e1.1 q1 | exact absurd q1 e1.1 | exact absurd e1.1 q1.1 | exact absurd q1.1 e1.1)
    · obtain ⟨fs19M, h19M⟩ := hmu2.obj
      refine k_istore (lv' := [(7, .int (iI zM)), (6, .int (iI 2)), (0, .ref b_o), (1, .ref (ad 0)), (2, .ref (bd 25)), (3, .ref aO), (4, .ref aD), (5, .int (iI i_o))]) h_o dL_law_1576 (by decide) rfl ?_
      refine k_aload_n h_o 4 dL_law_1578 rfl rfl ?_
      refine k_callV (As := []) (rest := []) h_o mX7_thrown kq_4_203 (c_X7_thrown hl0 hmu2) 19 h19M rfl rfl rfl (Nat.le_of_ble_eq_true rfl) ⟨rfl, rfl, ⟨(Nat.le_of_ble_eq_true rfl), (Nat.le_of_ble_eq_true rfl)⟩, ⟨by show _ ≤ 603072; omega, by show _ ≤ 7215210; omega⟩⟩ dL_law_1579 (kcI fun z1579_o w3_o hp => ?_)
      obtain ⟨rfl, rfl⟩ := hp
      refine k_iload h_o 1 dL_law_1582 rfl ?_
      refine k_icmpS h_o 1589 dL_law_1584 (by decide) ?_
      refine k_iload h_o 1 dL_law_1589 rfl ?_
      refine k_ifne h_o 1606 (by decide) dL_law_1591 (by decide) (fun h1591_o => ?_) (fun h1591_o => ?_)
      · refine k_goto h_o 1847 dL_law_1606 (by decide) ?_
        refine k_sub (lv' := [(0, .ref b_o), (1, .ref (ad 0)), (2, .ref (bd 25)), (3, .ref aO), (4, .ref aD), (5, .int (iI i_o))]) [2, 3, 4, 5, 6, 7] rfl ?_
        refine k_wd (k2 := k_o + 7) (n2 := n_o + 630) (by omega) (by omega) ?_
        exact kk _ ⟨_, bd, _, _, _, _, _, _, _, _, _, _, _, _, _, rfl, rfl, ((hexM 17 (by show ¬ (19 ≤ 17 ∧ 17 ≤ 44); omega)).trans hO1), ((hexM 18 (by show ¬ (19 ≤ 18 ∧ 18 ≤ 44); omega)).trans ((hexP 18 (by show ¬ (18 ≤ 17 ∨ 100 ≤ 18); omega)).trans hD)), (hsu1.ox (hexM.sub kMk_Ox)), hmu2⟩
      · exfalso; omega

set_option maxHeartbeats 4000000 in
set_option maxRecDepth 100000 in
theorem law_ambiguousAt {E_o : kE} {X_o : kX} {k_o n_o b_o L_o : Nat} {xs : Nat → Int32} (hl0 : (kXl X_o).stackTraces = false) (h_o : kOk E_o X_o code RL 9 room_1) (hNc : kNc (kXs X_o)) (hsr : kSr E_o X_o b_o L_o xs) (hL : L_o ≤ 2560) {i_o : Int} (hi_o : 0 ≤ i_o ∧ i_o + 5 ≤ (L_o : Int)) (hk : k_o + 7 ≤ 603072) (hn : n_o + 630 ≤ 7215210) {w_o : kW} {ad : Nat → Nat} {nr : Nat} {g_o : Nat → Nat → Int} {T_o : Nat} {lts : Nat → Nat → Int} {cs : Nat → Int} {acs : Nat → Nat → Int} {ams : Nat → Int} {rel fnd : Int} {Ns : Nat → Nat → Nat} {bd : Nat → Nat} {th : Int} {aO aD : Nat} {fO : Nat → Int} {fD : Nat → UInt64} (hO : w_o 17 = some (aO, al 1 fO)) (hD : w_o 18 = some (aD, kDl 1 fD)) (hst : kSu w_o ad nr g_o T_o lts cs acs ams rel fnd Ns) (hmu : kMu w_o bd nr g_o T_o lts cs acs ams rel fnd th) (kk : ∀ w2_o : kW, kLI w2_o (ad 0) (bd 25) aO aD → kG E_o X_o 9 (k_o + 7) (n_o + 630) w2_o 1847 [(0, .ref b_o), (1, .ref (ad 0)), (2, .ref (bd 25)), (3, .ref aO), (4, .ref aD), (5, .int (iI i_o))] []) : kG E_o X_o 9 k_o n_o w_o 1609 [(0, .ref b_o), (1, .ref (ad 0)), (2, .ref (bd 25)), (3, .ref aO), (4, .ref aD), (5, .int (iI i_o))] [] := by
  obtain ⟨x1, hx1⟩ : ∃ z_o, z_o = (xs (i_o + 1).toNat).toInt := ⟨_, rfl⟩
  have hr1 : -2147483648 ≤ x1 ∧ x1 < 2147483648 := by rw [hx1]; exact iI_rg _
  obtain ⟨x2, hx2⟩ : ∃ z_o, z_o = (xs (i_o + 2).toNat).toInt := ⟨_, rfl⟩
  have hr2 : -2147483648 ≤ x2 ∧ x2 < 2147483648 := by rw [hx2]; exact iI_rg _
  obtain ⟨x3, hx3⟩ : ∃ z_o, z_o = (xs (i_o + 3).toNat).toInt := ⟨_, rfl⟩
  have hr3 : -2147483648 ≤ x3 ∧ x3 < 2147483648 := by rw [hx3]; exact iI_rg _
  obtain ⟨x4, hx4⟩ : ∃ z_o, z_o = (xs (i_o + 4).toNat).toInt := ⟨_, rfl⟩
  have hr4 : -2147483648 ≤ x4 ∧ x4 < 2147483648 := by rw [hx4]; exact iI_rg _
  obtain ⟨fs19, h19_o⟩ := hmu.obj
  refine k_aload_n h_o 1 dL_law_1609 rfl rfl ?_
  refine k_aload_n h_o 0 dL_law_1610 rfl rfl ?_
  refine k_iload h_o 5 dL_law_1611 rfl ?_
  refine k_iconst h_o dL_law_1613 ?_
  refine k_iadd h_o dL_law_1614 ?_
  refine k_sld h_o hsr (x' := x1) (by omega) (by omega) hx1 dL_law_1615 ?_
  refine k_aload_n h_o 0 dL_law_1616 rfl rfl ?_
  refine k_iload h_o 5 dL_law_1617 rfl ?_
  refine k_iconst h_o dL_law_1619 ?_
  refine k_iadd h_o dL_law_1620 ?_
  refine k_sld h_o hsr (x' := x2) (by omega) (by omega) hx2 dL_law_1621 ?_
  refine k_aload_n h_o 0 dL_law_1622 rfl rfl ?_
  refine k_iload h_o 5 dL_law_1623 rfl ?_
  refine k_iconst h_o dL_law_1625 ?_
  refine k_iadd h_o dL_law_1626 ?_
  refine k_sld h_o hsr (x' := x3) (by omega) (by omega) hx3 dL_law_1627 ?_
  refine k_aload_n h_o 3 dL_law_1628 rfl rfl ?_
  refine k_callSWN (As := [.ref (ad 0), .int (iI x1), .int (iI x2), .int (iI x3), .ref aO]) (rest := []) h_o hNc mL_ambiguousAt kq_4_79 (c_L_ambiguousAt hl0 hst hr1 hr2 hr3 hO) rfl rfl (Nat.le_of_ble_eq_true rfl) ⟨rfl, rfl, ⟨(Nat.le_of_ble_eq_true rfl), (Nat.le_of_ble_eq_true rfl)⟩, ⟨by show _ ≤ 603072; omega, by show _ ≤ 7215210; omega⟩⟩ dL_law_1629 (kcI fun zH w1_o hp => ?_)
  rcases hp with ⟨rfl, z1_o, ⟨e1, c1, n1, e2, e3, e4, rfl⟩, hO1, hexP, hsu1⟩ | ⟨rfl, e1, hO1, hexP, hsu1⟩ | ⟨rfl, e1, hO1, hexP, hsu1⟩ | ⟨rfl, e1, hO1, hexP, hsu1⟩
  · have hmu1 := hmu.pl (hexP.sub kP7_Pw)
    obtain ⟨fs19P, h19P⟩ := hmu1.obj
    refine k_istore (lv' := [(6, .int (iI 0)), (0, .ref b_o), (1, .ref (ad 0)), (2, .ref (bd 25)), (3, .ref aO), (4, .ref aD), (5, .int (iI i_o))]) h_o dL_law_1632 (by decide) rfl ?_
    refine k_aload_n h_o 3 dL_law_1634 rfl rfl ?_
    refine k_aload_n h_o 1 dL_law_1635 rfl rfl ?_
    refine k_iload h_o 6 dL_law_1636 rfl ?_
    refine k_iconst h_o dL_law_1638 ?_
    refine k_iadd h_o dL_law_1639 ?_
    refine k_sld h_o hsr (x' := x1) (by omega) (by omega) hx1 dL_law_1640 ?_
    refine k_aload_n h_o 1 dL_law_1641 rfl rfl ?_
    refine k_iload h_o 6 dL_law_1642 rfl ?_
    refine k_iconst h_o dL_law_1644 ?_
    refine k_iadd h_o dL_law_1645 ?_
    refine k_sld h_o hsr (x' := x2) (by omega) (by omega) hx2 dL_law_1646 ?_
    refine k_aload_n h_o 1 dL_law_1647 rfl rfl ?_
    refine k_iload h_o 6 dL_law_1648 rfl ?_
    refine k_iconst h_o dL_law_1650 ?_
    refine k_iadd h_o dL_law_1651 ?_
    refine k_sld h_o hsr (x' := x3) (by omega) (by omega) hx3 dL_law_1652 ?_
    refine k_callV (As := [.int (iI x1), .int (iI x2), .int (iI x3)]) (rest := []) h_o mX7_ambiguousAt kq_5_160 (c_X7_ambiguousAt hl0 hmu1 hr1 hr2 hr3) 19 h19P rfl rfl rfl (Nat.le_of_ble_eq_true rfl) ⟨rfl, rfl, ⟨(Nat.le_of_ble_eq_true rfl), (Nat.le_of_ble_eq_true rfl)⟩, ⟨by show _ ≤ 603072; omega, by show _ ≤ 7215210; omega⟩⟩ dL_law_1653 (kcI fun zM w2_o hp => ?_)
    rcases hp with ⟨⟨q1, c2, n2, q2, q3, q4, rfl⟩, hmu2, hexM⟩ | ⟨q1, hmu2, hexM⟩ | ⟨q1, hmu2, hexM⟩
    · obtain ⟨fs19M, h19M⟩ := hmu2.obj
      obtain ⟨rfl, rfl⟩ := m_ar_uq e2 q2
      refine k_istore (lv' := [(7, .int (iI (m_rw x1 c1 n1 x3.toNat))), (6, .int (iI 0)), (0, .ref b_o), (1, .ref (ad 0)), (2, .ref (bd 25)), (3, .ref aO), (4, .ref aD), (5, .int (iI i_o))]) h_o dL_law_1656 (by decide) rfl ?_
      refine k_aload_n h_o 4 dL_law_1658 rfl rfl ?_
      refine k_callV (As := []) (rest := []) h_o mX7_thrown kq_4_203 (c_X7_thrown hl0 hmu2) 19 h19M rfl rfl rfl (Nat.le_of_ble_eq_true rfl) ⟨rfl, rfl, ⟨(Nat.le_of_ble_eq_true rfl), (Nat.le_of_ble_eq_true rfl)⟩, ⟨by show _ ≤ 603072; omega, by show _ ≤ 7215210; omega⟩⟩ dL_law_1659 (kcI fun z1659_o w3_o hp => ?_)
      obtain ⟨rfl, rfl⟩ := hp
      refine k_iload h_o 1 dL_law_1662 rfl ?_
      refine k_icmpS h_o 1669 dL_law_1664 (by decide) ?_
      refine k_iload h_o 1 dL_law_1669 rfl ?_
      refine k_ifne h_o 1686 (by decide) dL_law_1671 (by decide) (fun h1671_o => ?_) (fun h1671_o => ?_)
      · exfalso; omega
      · refine k_aload_n h_o 5 dL_law_1674 rfl rfl ?_
        refine k_iconst h_o dL_law_1675 ?_
        refine k_lald h_o 17 ((hexM 17 (by show ¬ (19 ≤ 17 ∧ 17 ≤ 44); omega)).trans hO1) (by decide) (by decide) dL_law_1676 ?_
        refine k_topL (z' := m_w (m_rw x1 c1 n1 x3.toNat)) kup_eq ?_
        refine k_iload h_o 0 dL_law_1677 rfl ?_
        refine k_i2lW h_o dL_law_1679 ?_
        refine k_lcmpS h_o dL_law_1680 ?_
        refine k_ifeq h_o 1686 (by decide) dL_law_1681 (by decide) (fun h1681_o => ?_) (fun h1681_o => ?_)
        · refine k_goto h_o 1847 dL_law_1686 (by decide) ?_
          refine k_sub (lv' := [(0, .ref b_o), (1, .ref (ad 0)), (2, .ref (bd 25)), (3, .ref aO), (4, .ref aD), (5, .int (iI i_o))]) [2, 3, 4, 5, 6, 7] rfl ?_
          refine k_wd (k2 := k_o + 7) (n2 := n_o + 630) (by omega) (by omega) ?_
          exact kk _ ⟨_, bd, _, _, _, _, _, _, _, _, _, _, _, _, _, rfl, rfl, ((hexM 17 (by show ¬ (19 ≤ 17 ∧ 17 ≤ 44); omega)).trans hO1), ((hexM 18 (by show ¬ (19 ≤ 18 ∧ 18 ≤ 44); omega)).trans ((hexP 18 (by show ¬ (18 ≤ 17 ∨ 100 ≤ 18); omega)).trans hD)), (hsu1.ox (hexM.sub kMk_Ox)), hmu2⟩
        · exfalso; omega
    · exfalso; (first | omega | exact absurd q1 e1 | exact absurd e1 q1 | exact absurd q1.1 e1 | exact absurd e1 q1.1 | exact absurd e1.1 q1 | exact absurd q1 e1.1 | exact absurd e1.1 q1.1 | exact absurd q1.1 e1.1)
    · exfalso; rcases q1.2 with q_o | ⟨c2, n2, q2, q3⟩; exact m_ar_an e2 q_o; have := (m_ar_uq e2 q2).1; omega
  · have hmu1 := hmu.pl (hexP.sub kP7_Pw)
    obtain ⟨fs19P, h19P⟩ := hmu1.obj
    refine k_istore (lv' := [(6, .int (iI 1)), (0, .ref b_o), (1, .ref (ad 0)), (2, .ref (bd 25)), (3, .ref aO), (4, .ref aD), (5, .int (iI i_o))]) h_o dL_law_1632 (by decide) rfl ?_
    refine k_aload_n h_o 3 dL_law_1634 rfl rfl ?_
    refine k_aload_n h_o 1 dL_law_1635 rfl rfl ?_
    refine k_iload h_o 6 dL_law_1636 rfl ?_
    refine k_iconst h_o dL_law_1638 ?_
    refine k_iadd h_o dL_law_1639 ?_
    refine k_sld h_o hsr (x' := x1) (by omega) (by omega) hx1 dL_law_1640 ?_
    refine k_aload_n h_o 1 dL_law_1641 rfl rfl ?_
    refine k_iload h_o 6 dL_law_1642 rfl ?_
    refine k_iconst h_o dL_law_1644 ?_
    refine k_iadd h_o dL_law_1645 ?_
    refine k_sld h_o hsr (x' := x2) (by omega) (by omega) hx2 dL_law_1646 ?_
    refine k_aload_n h_o 1 dL_law_1647 rfl rfl ?_
    refine k_iload h_o 6 dL_law_1648 rfl ?_
    refine k_iconst h_o dL_law_1650 ?_
    refine k_iadd h_o dL_law_1651 ?_
    refine k_sld h_o hsr (x' := x3) (by omega) (by omega) hx3 dL_law_1652 ?_
    refine k_callV (As := [.int (iI x1), .int (iI x2), .int (iI x3)]) (rest := []) h_o mX7_ambiguousAt kq_5_160 (c_X7_ambiguousAt hl0 hmu1 hr1 hr2 hr3) 19 h19P rfl rfl rfl (Nat.le_of_ble_eq_true rfl) ⟨rfl, rfl, ⟨(Nat.le_of_ble_eq_true rfl), (Nat.le_of_ble_eq_true rfl)⟩, ⟨by show _ ≤ 603072; omega, by show _ ≤ 7215210; omega⟩⟩ dL_law_1653 (kcI fun zM w2_o hp => ?_)
    rcases hp with ⟨⟨q1, c2, n2, q2, q3, q4, rfl⟩, hmu2, hexM⟩ | ⟨q1, hmu2, hexM⟩ | ⟨q1, hmu2, hexM⟩
    · exfalso; (first | omega | exact absurd q1 e1 | exact absurd e1 q1 | exact absurd q1.1 e1 | exact absurd e1 q1.1 | exact absurd e1.1 q1 | exact absurd q1 e1.1 | exact absurd e1.1 q1.1 | exact absurd q1.1 e1.1)
    · obtain ⟨fs19M, h19M⟩ := hmu2.obj
      refine k_istore (lv' := [(7, .int (iI zM)), (6, .int (iI 1)), (0, .ref b_o), (1, .ref (ad 0)), (2, .ref (bd 25)), (3, .ref aO), (4, .ref aD), (5, .int (iI i_o))]) h_o dL_law_1656 (by decide) rfl ?_
      refine k_aload_n h_o 4 dL_law_1658 rfl rfl ?_
      refine k_callV (As := []) (rest := []) h_o mX7_thrown kq_4_203 (c_X7_thrown hl0 hmu2) 19 h19M rfl rfl rfl (Nat.le_of_ble_eq_true rfl) ⟨rfl, rfl, ⟨(Nat.le_of_ble_eq_true rfl), (Nat.le_of_ble_eq_true rfl)⟩, ⟨by show _ ≤ 603072; omega, by show _ ≤ 7215210; omega⟩⟩ dL_law_1659 (kcI fun z1659_o w3_o hp => ?_)
      obtain ⟨rfl, rfl⟩ := hp
      refine k_iload h_o 1 dL_law_1662 rfl ?_
      refine k_icmpS h_o 1669 dL_law_1664 (by decide) ?_
      refine k_iload h_o 1 dL_law_1669 rfl ?_
      refine k_ifne h_o 1686 (by decide) dL_law_1671 (by decide) (fun h1671_o => ?_) (fun h1671_o => ?_)
      · refine k_goto h_o 1847 dL_law_1686 (by decide) ?_
        refine k_sub (lv' := [(0, .ref b_o), (1, .ref (ad 0)), (2, .ref (bd 25)), (3, .ref aO), (4, .ref aD), (5, .int (iI i_o))]) [2, 3, 4, 5, 6, 7] rfl ?_
        refine k_wd (k2 := k_o + 7) (n2 := n_o + 630) (by omega) (by omega) ?_
        exact kk _ ⟨_, bd, _, _, _, _, _, _, _, _, _, _, _, _, _, rfl, rfl, ((hexM 17 (by show ¬ (19 ≤ 17 ∧ 17 ≤ 44); omega)).trans hO1), ((hexM 18 (by show ¬ (19 ≤ 18 ∧ 18 ≤ 44); omega)).trans ((hexP 18 (by show ¬ (18 ≤ 17 ∨ 100 ≤ 18); omega)).trans hD)), (hsu1.ox (hexM.sub kMk_Ox)), hmu2⟩
      · exfalso; omega
    · exfalso; (first | omega | exact absurd q1 e1 | exact absurd e1 q1 | exact absurd q1.1 e1 | exact absurd e1 q1.1 | exact absurd e1.1 q1 | exact absurd q1 e1.1 | exact absurd e1.1 q1.1 | exact absurd q1.1 e1.1)
  · have hmu1 := hmu.pl (hexP.sub kP7_Pw)
    obtain ⟨fs19P, h19P⟩ := hmu1.obj
    refine k_istore (lv' := [(6, .int (iI 2)), (0, .ref b_o), (1, .ref (ad 0)), (2, .ref (bd 25)), (3, .ref aO), (4, .ref aD), (5, .int (iI i_o))]) h_o dL_law_1632 (by decide) rfl ?_
    refine k_aload_n h_o 3 dL_law_1634 rfl rfl ?_
    refine k_aload_n h_o 1 dL_law_1635 rfl rfl ?_
    refine k_iload h_o 6 dL_law_1636 rfl ?_
    refine k_iconst h_o dL_law_1638 ?_
    refine k_iadd h_o dL_law_1639 ?_
    refine k_sld h_o hsr (x' := x1) (by omega) (by omega) hx1 dL_law_1640 ?_
    refine k_aload_n h_o 1 dL_law_1641 rfl rfl ?_
    refine k_iload h_o 6 dL_law_1642 rfl ?_
    refine k_iconst h_o dL_law_1644 ?_
    refine k_iadd h_o dL_law_1645 ?_
    refine k_sld h_o hsr (x' := x2) (by omega) (by omega) hx2 dL_law_1646 ?_
    refine k_aload_n h_o 1 dL_law_1647 rfl rfl ?_
    refine k_iload h_o 6 dL_law_1648 rfl ?_
    refine k_iconst h_o dL_law_1650 ?_
    refine k_iadd h_o dL_law_1651 ?_
    refine k_sld h_o hsr (x' := x3) (by omega) (by omega) hx3 dL_law_1652 ?_
    refine k_callV (As := [.int (iI x1), .int (iI x2), .int (iI x3)]) (rest := []) h_o mX7_ambiguousAt kq_5_160 (c_X7_ambiguousAt hl0 hmu1 hr1 hr2 hr3) 19 h19P rfl rfl rfl (Nat.le_of_ble_eq_true rfl) ⟨rfl, rfl, ⟨(Nat.le_of_ble_eq_true rfl), (Nat.le_of_ble_eq_true rfl)⟩, ⟨by show _ ≤ 603072; omega, by show _ ≤ 7215210; omega⟩⟩ dL_law_1653 (kcI fun zM w2_o hp => ?_)
    rcases hp with ⟨⟨q1, c2, n2, q2, q3, q4, rfl⟩, hmu2, hexM⟩ | ⟨q1, hmu2, hexM⟩ | ⟨q1, hmu2, hexM⟩
    · exfalso; exact m_ar_an q2 e1.2
    · exfalso; (first | omega | exact absurd q1 e1 | exact absurd e1 q1 | exact absurd q1.1 e1 | exact absurd e1 q1.1 | exact absurd e1.1 q1 | exact absurd q1 e1.1 | exact absurd e1.1 q1.1 | exact absurd q1.1 e1.1)
    · obtain ⟨fs19M, h19M⟩ := hmu2.obj
      refine k_istore (lv' := [(7, .int (iI zM)), (6, .int (iI 2)), (0, .ref b_o), (1, .ref (ad 0)), (2, .ref (bd 25)), (3, .ref aO), (4, .ref aD), (5, .int (iI i_o))]) h_o dL_law_1656 (by decide) rfl ?_
      refine k_aload_n h_o 4 dL_law_1658 rfl rfl ?_
      refine k_callV (As := []) (rest := []) h_o mX7_thrown kq_4_203 (c_X7_thrown hl0 hmu2) 19 h19M rfl rfl rfl (Nat.le_of_ble_eq_true rfl) ⟨rfl, rfl, ⟨(Nat.le_of_ble_eq_true rfl), (Nat.le_of_ble_eq_true rfl)⟩, ⟨by show _ ≤ 603072; omega, by show _ ≤ 7215210; omega⟩⟩ dL_law_1659 (kcI fun z1659_o w3_o hp => ?_)
      obtain ⟨rfl, rfl⟩ := hp
      refine k_iload h_o 1 dL_law_1662 rfl ?_
      refine k_icmpS h_o 1669 dL_law_1664 (by decide) ?_
      refine k_iload h_o 1 dL_law_1669 rfl ?_
      refine k_ifne h_o 1686 (by decide) dL_law_1671 (by decide) (fun h1671_o => ?_) (fun h1671_o => ?_)
      · refine k_goto h_o 1847 dL_law_1686 (by decide) ?_
        refine k_sub (lv' := [(0, .ref b_o), (1, .ref (ad 0)), (2, .ref (bd 25)), (3, .ref aO), (4, .ref aD), (5, .int (iI i_o))]) [2, 3, 4, 5, 6, 7] rfl ?_
        refine k_wd (k2 := k_o + 7) (n2 := n_o + 630) (by omega) (by omega) ?_
        exact kk _ ⟨_, bd, _, _, _, _, _, _, _, _, _, _, _, _, _, rfl, rfl, ((hexM 17 (by show ¬ (19 ≤ 17 ∧ 17 ≤ 44); omega)).trans hO1), ((hexM 18 (by show ¬ (19 ≤ 18 ∧ 18 ≤ 44); omega)).trans ((hexP 18 (by show ¬ (18 ≤ 17 ∨ 100 ≤ 18); omega)).trans hD)), (hsu1.ox (hexM.sub kMk_Ox)), hmu2⟩
      · exfalso; omega
  · have hmu1 := hmu.pl (hexP.sub kP7_Pw)
    obtain ⟨fs19P, h19P⟩ := hmu1.obj
    refine k_istore (lv' := [(6, .int (iI 2)), (0, .ref b_o), (1, .ref (ad 0)), (2, .ref (bd 25)), (3, .ref aO), (4, .ref aD), (5, .int (iI i_o))]) h_o dL_law_1632 (by decide) rfl ?_
    refine k_aload_n h_o 3 dL_law_1634 rfl rfl ?_
    refine k_aload_n h_o 1 dL_law_1635 rfl rfl ?_
    refine k_iload h_o 6 dL_law_1636 rfl ?_
    refine k_iconst h_o dL_law_1638 ?_
    refine k_iadd h_o dL_law_1639 ?_
    refine k_sld h_o hsr (x' := x1) (by omega) (by omega) hx1 dL_law_1640 ?_
    refine k_aload_n h_o 1 dL_law_1641 rfl rfl ?_
    refine k_iload h_o 6 dL_law_1642 rfl ?_
    refine k_iconst h_o dL_law_1644 ?_
    refine k_iadd h_o dL_law_1645 ?_
    refine k_sld h_o hsr (x' := x2) (by omega) (by omega) hx2 dL_law_1646 ?_
    refine k_aload_n h_o 1 dL_law_1647 rfl rfl ?_
    refine k_iload h_o 6 dL_law_1648 rfl ?_
    refine k_iconst h_o dL_law_1650 ?_
    refine k_iadd h_o dL_law_1651 ?_
    refine k_sld h_o hsr (x' := x3) (by omega) (by omega) hx3 dL_law_1652 ?_
    refine k_callV (As := [.int (iI x1), .int (iI x2), .int (iI x3)]) (rest := []) h_o mX7_ambiguousAt kq_5_160 (c_X7_ambiguousAt hl0 hmu1 hr1 hr2 hr3) 19 h19P rfl rfl rfl (Nat.le_of_ble_eq_true rfl) ⟨rfl, rfl, ⟨(Nat.le_of_ble_eq_true rfl), (Nat.le_of_ble_eq_true rfl)⟩, ⟨by show _ ≤ 603072; omega, by show _ ≤ 7215210; omega⟩⟩ dL_law_1653 (kcI fun zM w2_o hp => ?_)
    rcases hp with ⟨⟨q1, c2, n2, q2, q3, q4, rfl⟩, hmu2, hexM⟩ | ⟨q1, hmu2, hexM⟩ | ⟨q1, hmu2, hexM⟩
    · exfalso; obtain ⟨c3, n3, q5, q6⟩ := e1.2; have := (m_ar_uq q2 q5).1; omega
    · exfalso; (first | omega | exact absurd q1 e1 | exact absurd e1 q1 | exact absurd q1.1 e1 | exact absurd e1 q1.1 | exact absurd e1.1 q1 | exact absurd q1 e1.1 | exact absurd e1.1 q1.1 | exact absurd q1.1 e1.1)
    · obtain ⟨fs19M, h19M⟩ := hmu2.obj
      refine k_istore (lv' := [(7, .int (iI zM)), (6, .int (iI 2)), (0, .ref b_o), (1, .ref (ad 0)), (2, .ref (bd 25)), (3, .ref aO), (4, .ref aD), (5, .int (iI i_o))]) h_o dL_law_1656 (by decide) rfl ?_
      refine k_aload_n h_o 4 dL_law_1658 rfl rfl ?_
      refine k_callV (As := []) (rest := []) h_o mX7_thrown kq_4_203 (c_X7_thrown hl0 hmu2) 19 h19M rfl rfl rfl (Nat.le_of_ble_eq_true rfl) ⟨rfl, rfl, ⟨(Nat.le_of_ble_eq_true rfl), (Nat.le_of_ble_eq_true rfl)⟩, ⟨by show _ ≤ 603072; omega, by show _ ≤ 7215210; omega⟩⟩ dL_law_1659 (kcI fun z1659_o w3_o hp => ?_)
      obtain ⟨rfl, rfl⟩ := hp
      refine k_iload h_o 1 dL_law_1662 rfl ?_
      refine k_icmpS h_o 1669 dL_law_1664 (by decide) ?_
      refine k_iload h_o 1 dL_law_1669 rfl ?_
      refine k_ifne h_o 1686 (by decide) dL_law_1671 (by decide) (fun h1671_o => ?_) (fun h1671_o => ?_)
      · refine k_goto h_o 1847 dL_law_1686 (by decide) ?_
        refine k_sub (lv' := [(0, .ref b_o), (1, .ref (ad 0)), (2, .ref (bd 25)), (3, .ref aO), (4, .ref aD), (5, .int (iI i_o))]) [2, 3, 4, 5, 6, 7] rfl ?_
        refine k_wd (k2 := k_o + 7) (n2 := n_o + 630) (by omega) (by omega) ?_
        exact kk _ ⟨_, bd, _, _, _, _, _, _, _, _, _, _, _, _, _, rfl, rfl, ((hexM 17 (by show ¬ (19 ≤ 17 ∧ 17 ≤ 44); omega)).trans hO1), ((hexM 18 (by show ¬ (19 ≤ 18 ∧ 18 ≤ 44); omega)).trans ((hexP 18 (by show ¬ (18 ≤ 17 ∨ 100 ≤ 18); omega)).trans hD)), (hsu1.ox (hexM.sub kMk_Ox)), hmu2⟩
      · exfalso; omega

set_option maxHeartbeats 4000000 in
set_option maxRecDepth 100000 in
theorem law_cleanShare {E_o : kE} {X_o : kX} {k_o n_o b_o L_o : Nat} {xs : Nat → Int32} (hl0 : (kXl X_o).stackTraces = false) (h_o : kOk E_o X_o code RL 9 room_1) (hNc : kNc (kXs X_o)) (hsr : kSr E_o X_o b_o L_o xs) (hL : L_o ≤ 2560) {i_o : Int} (hi_o : 0 ≤ i_o ∧ i_o + 5 ≤ (L_o : Int)) (hk : k_o + 7 ≤ 603072) (hn : n_o + 630 ≤ 7215210) {w_o : kW} {ad : Nat → Nat} {nr : Nat} {g_o : Nat → Nat → Int} {T_o : Nat} {lts : Nat → Nat → Int} {cs : Nat → Int} {acs : Nat → Nat → Int} {ams : Nat → Int} {rel fnd : Int} {Ns : Nat → Nat → Nat} {bd : Nat → Nat} {th : Int} {aO aD : Nat} {fO : Nat → Int} {fD : Nat → UInt64} (hO : w_o 17 = some (aO, al 1 fO)) (hD : w_o 18 = some (aD, kDl 1 fD)) (hst : kSu w_o ad nr g_o T_o lts cs acs ams rel fnd Ns) (hmu : kMu w_o bd nr g_o T_o lts cs acs ams rel fnd th) (kk : ∀ w2_o : kW, kLI w2_o (ad 0) (bd 25) aO aD → kG E_o X_o 9 (k_o + 7) (n_o + 630) w2_o 1847 [(0, .ref b_o), (1, .ref (ad 0)), (2, .ref (bd 25)), (3, .ref aO), (4, .ref aD), (5, .int (iI i_o))] []) : kG E_o X_o 9 k_o n_o w_o 1703 [(0, .ref b_o), (1, .ref (ad 0)), (2, .ref (bd 25)), (3, .ref aO), (4, .ref aD), (5, .int (iI i_o))] [] := by
  obtain ⟨x1, hx1⟩ : ∃ z_o, z_o = (xs (i_o + 1).toNat).toInt := ⟨_, rfl⟩
  have hr1 : -2147483648 ≤ x1 ∧ x1 < 2147483648 := by rw [hx1]; exact iI_rg _
  obtain ⟨x2, hx2⟩ : ∃ z_o, z_o = (xs (i_o + 2).toNat).toInt := ⟨_, rfl⟩
  have hr2 : -2147483648 ≤ x2 ∧ x2 < 2147483648 := by rw [hx2]; exact iI_rg _
  obtain ⟨x3, hx3⟩ : ∃ z_o, z_o = (xs (i_o + 3).toNat).toInt := ⟨_, rfl⟩
  have hr3 : -2147483648 ≤ x3 ∧ x3 < 2147483648 := by rw [hx3]; exact iI_rg _
  obtain ⟨x4, hx4⟩ : ∃ z_o, z_o = (xs (i_o + 4).toNat).toInt := ⟨_, rfl⟩
  have hr4 : -2147483648 ≤ x4 ∧ x4 < 2147483648 := by rw [hx4]; exact iI_rg _
  obtain ⟨fs19, h19_o⟩ := hmu.obj
  refine k_aload_n h_o 1 dL_law_1703 rfl rfl ?_
  refine k_aload h_o 4 dL_law_1704 rfl ?_
  refine k_callSWN (As := [.ref (ad 0), .ref aD]) (rest := []) h_o hNc mL_cleanShare kq_4_86 (c_L_cleanShare hl0 hst  hD) rfl rfl (Nat.le_of_ble_eq_true rfl) ⟨rfl, rfl, ⟨(Nat.le_of_ble_eq_true rfl), (Nat.le_of_ble_eq_true rfl)⟩, ⟨by show _ ≤ 603072; omega, by show _ ≤ 7215210; omega⟩⟩ dL_law_1706 (kcI fun zH w1_o hp => ?_)
  rcases hp with ⟨rfl, e1, hO1, hexP, hsu1⟩ | ⟨rfl, e1, hO1, hexP, hsu1⟩
  · have hmu1 := hmu.pl (hexP.sub kP8_Pw)
    obtain ⟨fs19P, h19P⟩ := hmu1.obj
    refine k_istore (lv' := [(6, .int (iI 0)), (0, .ref b_o), (1, .ref (ad 0)), (2, .ref (bd 25)), (3, .ref aO), (4, .ref aD), (5, .int (iI i_o))]) h_o dL_law_1709 (by decide) rfl ?_
    refine k_aload_n h_o 3 dL_law_1711 rfl rfl ?_
    refine k_callV (As := []) (rest := []) h_o mX7_cleanShare kq_5_168 (c_X7_cleanShare hl0 hmu1) 19 h19P rfl rfl rfl (Nat.le_of_ble_eq_true rfl) ⟨rfl, rfl, ⟨(Nat.le_of_ble_eq_true rfl), (Nat.le_of_ble_eq_true rfl)⟩, ⟨by show _ ≤ 603072; omega, by show _ ≤ 7215210; omega⟩⟩ dL_law_1712 (kcF fun zM w2_o hp => ?_)
    rcases hp with ⟨q1, rfl, hmu2, hexM⟩ | ⟨q1, hmu2, hexM⟩
    · obtain ⟨fs19M, h19M⟩ := hmu2.obj
      refine k_fstore (lv' := [(7, .float (FP.fdiv (FP.i2f (iI (m_tc (fun t_o => t_o < T_o ∧ m_fv g_o nr (lts t_o) (cs t_o) (acs t_o) (ams t_o) = 45) 6))) (FP.i2f (iI (T_o : Int))))), (6, .int (iI 0)), (0, .ref b_o), (1, .ref (ad 0)), (2, .ref (bd 25)), (3, .ref aO), (4, .ref aD), (5, .int (iI i_o))]) h_o dL_law_1715 (by decide) rfl ?_
      refine k_aload_n h_o 4 dL_law_1717 rfl rfl ?_
      refine k_callV (As := []) (rest := []) h_o mX7_thrown kq_4_203 (c_X7_thrown hl0 hmu2) 19 h19M rfl rfl rfl (Nat.le_of_ble_eq_true rfl) ⟨rfl, rfl, ⟨(Nat.le_of_ble_eq_true rfl), (Nat.le_of_ble_eq_true rfl)⟩, ⟨by show _ ≤ 603072; omega, by show _ ≤ 7215210; omega⟩⟩ dL_law_1718 (kcI fun z1718_o w3_o hp => ?_)
      obtain ⟨rfl, rfl⟩ := hp
      refine k_iload h_o 1 dL_law_1721 rfl ?_
      refine k_icmpS h_o 1728 dL_law_1723 (by decide) ?_
      refine k_iload h_o 1 dL_law_1728 rfl ?_
      refine k_ifne h_o 1766 (by decide) dL_law_1730 (by decide) (fun h1730_o => ?_) (fun h1730_o => ?_)
      · exfalso; omega
      · refine k_aload h_o 6 dL_law_1733 rfl ?_
        refine k_iconst h_o dL_law_1735 ?_
        refine k_dald h_o 18 ((hexM 18 (by show ¬ (19 ≤ 18 ∧ 18 ≤ 44); omega)).trans hO1) (by decide) (by decide) dL_law_1736 ?_
        refine k_topD (z' := FP.f2d (FP.fdiv (FP.i2f (iI (m_tc (fun t_o => t_o < T_o ∧ m_fv g_o nr (lts t_o) (cs t_o) (acs t_o) (ams t_o) = 45) 6))) (FP.i2f (iI (T_o : Int))))) kup_eq ?_
        refine k_fload h_o 0 dL_law_1737 rfl ?_
        refine k_f2d h_o (m_nf2 (by have := m_tc_rg (P := (fun t_o => t_o < T_o ∧ m_fv g_o nr (lts t_o) (cs t_o) (acs t_o) (ams t_o) = 45)) 6; omega) (by have := hst.T6; omega)) dL_law_1739 ?_
        refine k_dcmpS h_o (m_nf2 (by have := m_tc_rg (P := (fun t_o => t_o < T_o ∧ m_fv g_o nr (lts t_o) (cs t_o) (acs t_o) (ams t_o) = 45)) 6; omega) (by have := hst.T6; omega)) dL_law_1740 ?_
        refine k_ifeq h_o 1766 (by decide) dL_law_1741 (by decide) (fun h1741_o => ?_) (fun h1741_o => ?_)
        · refine k_goto h_o 1847 dL_law_1766 (by decide) ?_
          refine k_sub (lv' := [(0, .ref b_o), (1, .ref (ad 0)), (2, .ref (bd 25)), (3, .ref aO), (4, .ref aD), (5, .int (iI i_o))]) [2, 3, 4, 5, 6, 7] rfl ?_
          refine k_wd (k2 := k_o + 7) (n2 := n_o + 630) (by omega) (by omega) ?_
          exact kk _ ⟨_, bd, _, _, _, _, _, _, _, _, _, _, _, _, _, rfl, rfl, ((hexM 17 (by show ¬ (19 ≤ 17 ∧ 17 ≤ 44); omega)).trans ((hexP 17 (by show ¬ (17 ≤ 16 ∨ 17 = 18 ∨ 100 ≤ 17); omega)).trans hO)), ((hexM 18 (by show ¬ (19 ≤ 18 ∧ 18 ≤ 44); omega)).trans hO1), (hsu1.ox (hexM.sub kMk_Ox)), hmu2⟩
        · exfalso; omega
    · exfalso; (first | omega | exact absurd q1 e1 | exact absurd e1 q1 | exact absurd q1.1 e1 | exact absurd e1 q1.1 | exact absurd e1.1 q1 | exact absurd q1 e1.1 | exact absurd e1.1 q1.1 | exact absurd q1.1 e1.1)
  · have hmu1 := hmu.pl (hexP.sub kP8_Pw)
    obtain ⟨fs19P, h19P⟩ := hmu1.obj
    refine k_istore (lv' := [(6, .int (iI 1)), (0, .ref b_o), (1, .ref (ad 0)), (2, .ref (bd 25)), (3, .ref aO), (4, .ref aD), (5, .int (iI i_o))]) h_o dL_law_1709 (by decide) rfl ?_
    refine k_aload_n h_o 3 dL_law_1711 rfl rfl ?_
    refine k_callV (As := []) (rest := []) h_o mX7_cleanShare kq_5_168 (c_X7_cleanShare hl0 hmu1) 19 h19P rfl rfl rfl (Nat.le_of_ble_eq_true rfl) ⟨rfl, rfl, ⟨(Nat.le_of_ble_eq_true rfl), (Nat.le_of_ble_eq_true rfl)⟩, ⟨by show _ ≤ 603072; omega, by show _ ≤ 7215210; omega⟩⟩ dL_law_1712 (kcF fun zM w2_o hp => ?_)
    rcases hp with ⟨q1, rfl, hmu2, hexM⟩ | ⟨q1, hmu2, hexM⟩
    · exfalso; (first | omega | exact absurd q1 e1 | exact absurd e1 q1 | exact absurd q1.1 e1 | exact absurd e1 q1.1 | exact absurd e1.1 q1 | exact absurd q1 e1.1 | exact absurd e1.1 q1.1 | exact absurd q1.1 e1.1)
    · obtain ⟨fs19M, h19M⟩ := hmu2.obj
      refine k_fstore (lv' := [(7, .float zM), (6, .int (iI 1)), (0, .ref b_o), (1, .ref (ad 0)), (2, .ref (bd 25)), (3, .ref aO), (4, .ref aD), (5, .int (iI i_o))]) h_o dL_law_1715 (by decide) rfl ?_
      refine k_aload_n h_o 4 dL_law_1717 rfl rfl ?_
      refine k_callV (As := []) (rest := []) h_o mX7_thrown kq_4_203 (c_X7_thrown hl0 hmu2) 19 h19M rfl rfl rfl (Nat.le_of_ble_eq_true rfl) ⟨rfl, rfl, ⟨(Nat.le_of_ble_eq_true rfl), (Nat.le_of_ble_eq_true rfl)⟩, ⟨by show _ ≤ 603072; omega, by show _ ≤ 7215210; omega⟩⟩ dL_law_1718 (kcI fun z1718_o w3_o hp => ?_)
      obtain ⟨rfl, rfl⟩ := hp
      refine k_iload h_o 1 dL_law_1721 rfl ?_
      refine k_icmpS h_o 1728 dL_law_1723 (by decide) ?_
      refine k_iload h_o 1 dL_law_1728 rfl ?_
      refine k_ifne h_o 1766 (by decide) dL_law_1730 (by decide) (fun h1730_o => ?_) (fun h1730_o => ?_)
      · refine k_goto h_o 1847 dL_law_1766 (by decide) ?_
        refine k_sub (lv' := [(0, .ref b_o), (1, .ref (ad 0)), (2, .ref (bd 25)), (3, .ref aO), (4, .ref aD), (5, .int (iI i_o))]) [2, 3, 4, 5, 6, 7] rfl ?_
        refine k_wd (k2 := k_o + 7) (n2 := n_o + 630) (by omega) (by omega) ?_
        exact kk _ ⟨_, bd, _, _, _, _, _, _, _, _, _, _, _, _, _, rfl, rfl, ((hexM 17 (by show ¬ (19 ≤ 17 ∧ 17 ≤ 44); omega)).trans ((hexP 17 (by show ¬ (17 ≤ 16 ∨ 17 = 18 ∨ 100 ≤ 17); omega)).trans hO)), ((hexM 18 (by show ¬ (19 ≤ 18 ∧ 18 ≤ 44); omega)).trans hO1), (hsu1.ox (hexM.sub kMk_Ox)), hmu2⟩
      · exfalso; omega

set_option maxHeartbeats 4000000 in
set_option maxRecDepth 100000 in
theorem law_meanTrees {E_o : kE} {X_o : kX} {k_o n_o b_o L_o : Nat} {xs : Nat → Int32} (hl0 : (kXl X_o).stackTraces = false) (h_o : kOk E_o X_o code RL 9 room_1) (hNc : kNc (kXs X_o)) (hsr : kSr E_o X_o b_o L_o xs) (hL : L_o ≤ 2560) {i_o : Int} (hi_o : 0 ≤ i_o ∧ i_o + 5 ≤ (L_o : Int)) (hk : k_o + 7 ≤ 603072) (hn : n_o + 630 ≤ 7215210) {w_o : kW} {ad : Nat → Nat} {nr : Nat} {g_o : Nat → Nat → Int} {T_o : Nat} {lts : Nat → Nat → Int} {cs : Nat → Int} {acs : Nat → Nat → Int} {ams : Nat → Int} {rel fnd : Int} {Ns : Nat → Nat → Nat} {bd : Nat → Nat} {th : Int} {aO aD : Nat} {fO : Nat → Int} {fD : Nat → UInt64} (hO : w_o 17 = some (aO, al 1 fO)) (hD : w_o 18 = some (aD, kDl 1 fD)) (hst : kSu w_o ad nr g_o T_o lts cs acs ams rel fnd Ns) (hmu : kMu w_o bd nr g_o T_o lts cs acs ams rel fnd th) (kk : ∀ w2_o : kW, kLI w2_o (ad 0) (bd 25) aO aD → kG E_o X_o 9 (k_o + 7) (n_o + 630) w2_o 1847 [(0, .ref b_o), (1, .ref (ad 0)), (2, .ref (bd 25)), (3, .ref aO), (4, .ref aD), (5, .int (iI i_o))] []) : kG E_o X_o 9 k_o n_o w_o 1769 [(0, .ref b_o), (1, .ref (ad 0)), (2, .ref (bd 25)), (3, .ref aO), (4, .ref aD), (5, .int (iI i_o))] [] := by
  obtain ⟨x1, hx1⟩ : ∃ z_o, z_o = (xs (i_o + 1).toNat).toInt := ⟨_, rfl⟩
  have hr1 : -2147483648 ≤ x1 ∧ x1 < 2147483648 := by rw [hx1]; exact iI_rg _
  obtain ⟨x2, hx2⟩ : ∃ z_o, z_o = (xs (i_o + 2).toNat).toInt := ⟨_, rfl⟩
  have hr2 : -2147483648 ≤ x2 ∧ x2 < 2147483648 := by rw [hx2]; exact iI_rg _
  obtain ⟨x3, hx3⟩ : ∃ z_o, z_o = (xs (i_o + 3).toNat).toInt := ⟨_, rfl⟩
  have hr3 : -2147483648 ≤ x3 ∧ x3 < 2147483648 := by rw [hx3]; exact iI_rg _
  obtain ⟨x4, hx4⟩ : ∃ z_o, z_o = (xs (i_o + 4).toNat).toInt := ⟨_, rfl⟩
  have hr4 : -2147483648 ≤ x4 ∧ x4 < 2147483648 := by rw [hx4]; exact iI_rg _
  obtain ⟨fs19, h19_o⟩ := hmu.obj
  refine k_aload_n h_o 1 dL_law_1769 rfl rfl ?_
  refine k_aload h_o 4 dL_law_1770 rfl ?_
  refine k_callSWN (As := [.ref (ad 0), .ref aD]) (rest := []) h_o hNc mL_meanTrees kq_4_112 (c_L_meanTrees hl0 hst  hD) rfl rfl (Nat.le_of_ble_eq_true rfl) ⟨rfl, rfl, ⟨(Nat.le_of_ble_eq_true rfl), (Nat.le_of_ble_eq_true rfl)⟩, ⟨by show _ ≤ 603072; omega, by show _ ≤ 7215210; omega⟩⟩ dL_law_1772 (kcI fun zH w1_o hp => ?_)
  rcases hp with ⟨rfl, e1, hO1, hexP, hsu1⟩ | ⟨rfl, e1, hO1, hexP, hsu1⟩
  · have hmu1 := hmu.pl (hexP.sub kP8_Pw)
    obtain ⟨fs19P, h19P⟩ := hmu1.obj
    refine k_istore (lv' := [(6, .int (iI 0)), (0, .ref b_o), (1, .ref (ad 0)), (2, .ref (bd 25)), (3, .ref aO), (4, .ref aD), (5, .int (iI i_o))]) h_o dL_law_1775 (by decide) rfl ?_
    refine k_aload_n h_o 3 dL_law_1777 rfl rfl ?_
    refine k_callV (As := []) (rest := []) h_o mX7_meanTrees kq_5_172 (c_X7_meanTrees hl0 hmu1) 19 h19P rfl rfl rfl (Nat.le_of_ble_eq_true rfl) ⟨rfl, rfl, ⟨(Nat.le_of_ble_eq_true rfl), (Nat.le_of_ble_eq_true rfl)⟩, ⟨by show _ ≤ 603072; omega, by show _ ≤ 7215210; omega⟩⟩ dL_law_1778 (kcD fun zM w2_o hp => ?_)
    rcases hp with ⟨q1, rfl, hmu2, hexM⟩ | ⟨q1, hmu2, hexM⟩
    · obtain ⟨fs19M, h19M⟩ := hmu2.obj
      refine k_dstore (lv' := [(7, .double (FP.ddiv (FP.i2d (iI (m_tf (fun t_o => t_o < T_o) (fun t_o => ((m_TT g_o nr (lts t_o) 10 0 (cs t_o - 1) : Nat) : Int)) 6))) (FP.i2d (iI (T_o : Int))))), (6, .int (iI 0)), (0, .ref b_o), (1, .ref (ad 0)), (2, .ref (bd 25)), (3, .ref aO), (4, .ref aD), (5, .int (iI i_o))]) h_o dL_law_1781 (by decide) rfl ?_
      refine k_aload_n h_o 4 dL_law_1783 rfl rfl ?_
      refine k_callV (As := []) (rest := []) h_o mX7_thrown kq_4_203 (c_X7_thrown hl0 hmu2) 19 h19M rfl rfl rfl (Nat.le_of_ble_eq_true rfl) ⟨rfl, rfl, ⟨(Nat.le_of_ble_eq_true rfl), (Nat.le_of_ble_eq_true rfl)⟩, ⟨by show _ ≤ 603072; omega, by show _ ≤ 7215210; omega⟩⟩ dL_law_1784 (kcI fun z1784_o w3_o hp => ?_)
      obtain ⟨rfl, rfl⟩ := hp
      refine k_iload h_o 1 dL_law_1787 rfl ?_
      refine k_icmpS h_o 1794 dL_law_1789 (by decide) ?_
      refine k_iload h_o 1 dL_law_1794 rfl ?_
      refine k_ifne h_o 1831 (by decide) dL_law_1796 (by decide) (fun h1796_o => ?_) (fun h1796_o => ?_)
      · exfalso; omega
      · refine k_aload h_o 6 dL_law_1799 rfl ?_
        refine k_iconst h_o dL_law_1801 ?_
        refine k_dald h_o 18 ((hexM 18 (by show ¬ (19 ≤ 18 ∧ 18 ≤ 44); omega)).trans hO1) (by decide) (by decide) dL_law_1802 ?_
        refine k_topD (z' := FP.ddiv (FP.i2d (iI (m_tf (fun t_o => t_o < T_o) (fun t_o => ((m_TT g_o nr (lts t_o) 10 0 (cs t_o - 1) : Nat) : Int)) 6))) (FP.i2d (iI (T_o : Int)))) kup_eq ?_
        refine k_dload h_o 0 dL_law_1803 rfl ?_
        refine k_dcmpS h_o (m_nd64 (by have := m_tf_rg2 (P := fun t_o => t_o < T_o) (f := (fun t_o => ((m_TT g_o nr (lts t_o) 10 0 (cs t_o - 1) : Nat) : Int))) (fun k_o => m_TTi) 6; omega) (by have := hst.T6; omega)) dL_law_1805 ?_
        refine k_ifeq h_o 1831 (by decide) dL_law_1806 (by decide) (fun h1806_o => ?_) (fun h1806_o => ?_)
        · refine k_goto h_o 1847 dL_law_1831 (by decide) ?_
          refine k_sub (lv' := [(0, .ref b_o), (1, .ref (ad 0)), (2, .ref (bd 25)), (3, .ref aO), (4, .ref aD), (5, .int (iI i_o))]) [2, 3, 4, 5, 6, 7] rfl ?_
          refine k_wd (k2 := k_o + 7) (n2 := n_o + 630) (by omega) (by omega) ?_
          exact kk _ ⟨_, bd, _, _, _, _, _, _, _, _, _, _, _, _, _, rfl, rfl, ((hexM 17 (by show ¬ (19 ≤ 17 ∧ 17 ≤ 44); omega)).trans ((hexP 17 (by show ¬ (17 ≤ 16 ∨ 17 = 18 ∨ 100 ≤ 17); omega)).trans hO)), ((hexM 18 (by show ¬ (19 ≤ 18 ∧ 18 ≤ 44); omega)).trans hO1), (hsu1.ox (hexM.sub kMk_Ox)), hmu2⟩
        · exfalso; omega
    · exfalso; (first | omega | exact absurd q1 e1 | exact absurd e1 q1 | exact absurd q1.1 e1 | exact absurd e1 q1.1 | exact absurd e1.1 q1 | exact absurd q1 e1.1 | exact absurd e1.1 q1.1 | exact absurd q1.1 e1.1)
  · have hmu1 := hmu.pl (hexP.sub kP8_Pw)
    obtain ⟨fs19P, h19P⟩ := hmu1.obj
    refine k_istore (lv' := [(6, .int (iI 1)), (0, .ref b_o), (1, .ref (ad 0)), (2, .ref (bd 25)), (3, .ref aO), (4, .ref aD), (5, .int (iI i_o))]) h_o dL_law_1775 (by decide) rfl ?_
    refine k_aload_n h_o 3 dL_law_1777 rfl rfl ?_
    refine k_callV (As := []) (rest := []) h_o mX7_meanTrees kq_5_172 (c_X7_meanTrees hl0 hmu1) 19 h19P rfl rfl rfl (Nat.le_of_ble_eq_true rfl) ⟨rfl, rfl, ⟨(Nat.le_of_ble_eq_true rfl), (Nat.le_of_ble_eq_true rfl)⟩, ⟨by show _ ≤ 603072; omega, by show _ ≤ 7215210; omega⟩⟩ dL_law_1778 (kcD fun zM w2_o hp => ?_)
    rcases hp with ⟨q1, rfl, hmu2, hexM⟩ | ⟨q1, hmu2, hexM⟩
    · exfalso; (first | omega | exact absurd q1 e1 | exact absurd e1 q1 | exact absurd q1.1 e1 | exact absurd e1 q1.1 | exact absurd e1.1 q1 | exact absurd q1 e1.1 | exact absurd e1.1 q1.1 | exact absurd q1.1 e1.1)
    · obtain ⟨fs19M, h19M⟩ := hmu2.obj
      refine k_dstore (lv' := [(7, .double zM), (6, .int (iI 1)), (0, .ref b_o), (1, .ref (ad 0)), (2, .ref (bd 25)), (3, .ref aO), (4, .ref aD), (5, .int (iI i_o))]) h_o dL_law_1781 (by decide) rfl ?_
      refine k_aload_n h_o 4 dL_law_1783 rfl rfl ?_
      refine k_callV (As := []) (rest := []) h_o mX7_thrown kq_4_203 (c_X7_thrown hl0 hmu2) 19 h19M rfl rfl rfl (Nat.le_of_ble_eq_true rfl) ⟨rfl, rfl, ⟨(Nat.le_of_ble_eq_true rfl), (Nat.le_of_ble_eq_true rfl)⟩, ⟨by show _ ≤ 603072; omega, by show _ ≤ 7215210; omega⟩⟩ dL_law_1784 (kcI fun z1784_o w3_o hp => ?_)
      obtain ⟨rfl, rfl⟩ := hp
      refine k_iload h_o 1 dL_law_1787 rfl ?_
      refine k_icmpS h_o 1794 dL_law_1789 (by decide) ?_
      refine k_iload h_o 1 dL_law_1794 rfl ?_
      refine k_ifne h_o 1831 (by decide) dL_law_1796 (by decide) (fun h1796_o => ?_) (fun h1796_o => ?_)
      · refine k_goto h_o 1847 dL_law_1831 (by decide) ?_
        refine k_sub (lv' := [(0, .ref b_o), (1, .ref (ad 0)), (2, .ref (bd 25)), (3, .ref aO), (4, .ref aD), (5, .int (iI i_o))]) [2, 3, 4, 5, 6, 7] rfl ?_
        refine k_wd (k2 := k_o + 7) (n2 := n_o + 630) (by omega) (by omega) ?_
        exact kk _ ⟨_, bd, _, _, _, _, _, _, _, _, _, _, _, _, _, rfl, rfl, ((hexM 17 (by show ¬ (19 ≤ 17 ∧ 17 ≤ 44); omega)).trans ((hexP 17 (by show ¬ (17 ≤ 16 ∨ 17 = 18 ∨ 100 ≤ 17); omega)).trans hO)), ((hexM 18 (by show ¬ (19 ≤ 18 ∧ 18 ≤ 44); omega)).trans hO1), (hsu1.ox (hexM.sub kMk_Ox)), hmu2⟩
      · exfalso; omega

set_option maxHeartbeats 4000000 in
set_option maxRecDepth 100000 in
theorem law_rules {E_o : kE} {X_o : kX} {k_o n_o b_o L_o : Nat} {xs : Nat → Int32} (hl0 : (kXl X_o).stackTraces = false) (h_o : kOk E_o X_o code RL 9 room_1) (hNc : kNc (kXs X_o)) (hsr : kSr E_o X_o b_o L_o xs) (hL : L_o ≤ 2560) {i_o : Int} (hi_o : 0 ≤ i_o ∧ i_o + 5 ≤ (L_o : Int)) (hk : k_o + 7 ≤ 603072) (hn : n_o + 630 ≤ 7215210) {w_o : kW} {ad : Nat → Nat} {nr : Nat} {g_o : Nat → Nat → Int} {T_o : Nat} {lts : Nat → Nat → Int} {cs : Nat → Int} {acs : Nat → Nat → Int} {ams : Nat → Int} {rel fnd : Int} {Ns : Nat → Nat → Nat} {bd : Nat → Nat} {th : Int} {aO aD : Nat} {fO : Nat → Int} {fD : Nat → UInt64} (hO : w_o 17 = some (aO, al 1 fO)) (hD : w_o 18 = some (aD, kDl 1 fD)) (hst : kSu w_o ad nr g_o T_o lts cs acs ams rel fnd Ns) (hmu : kMu w_o bd nr g_o T_o lts cs acs ams rel fnd th) (kk : ∀ w2_o : kW, kLI w2_o (ad 0) (bd 25) aO aD → kG E_o X_o 9 (k_o + 7) (n_o + 630) w2_o 1847 [(0, .ref b_o), (1, .ref (ad 0)), (2, .ref (bd 25)), (3, .ref aO), (4, .ref aD), (5, .int (iI i_o))] []) : kG E_o X_o 9 k_o n_o w_o 468 [(0, .ref b_o), (1, .ref (ad 0)), (2, .ref (bd 25)), (3, .ref aO), (4, .ref aD), (5, .int (iI i_o))] [] := by
  obtain ⟨x1, hx1⟩ : ∃ z_o, z_o = (xs (i_o + 1).toNat).toInt := ⟨_, rfl⟩
  have hr1 : -2147483648 ≤ x1 ∧ x1 < 2147483648 := by rw [hx1]; exact iI_rg _
  obtain ⟨x2, hx2⟩ : ∃ z_o, z_o = (xs (i_o + 2).toNat).toInt := ⟨_, rfl⟩
  have hr2 : -2147483648 ≤ x2 ∧ x2 < 2147483648 := by rw [hx2]; exact iI_rg _
  obtain ⟨x3, hx3⟩ : ∃ z_o, z_o = (xs (i_o + 3).toNat).toInt := ⟨_, rfl⟩
  have hr3 : -2147483648 ≤ x3 ∧ x3 < 2147483648 := by rw [hx3]; exact iI_rg _
  obtain ⟨x4, hx4⟩ : ∃ z_o, z_o = (xs (i_o + 4).toNat).toInt := ⟨_, rfl⟩
  have hr4 : -2147483648 ≤ x4 ∧ x4 < 2147483648 := by rw [hx4]; exact iI_rg _
  obtain ⟨fs19, h19_o⟩ := hmu.obj
  refine k_aload_n h_o 1 dL_law_468 rfl rfl ?_
  refine k_callV (As := []) (rest := []) h_o mX6_rules kq_1_149 (c_X6_rules hl0 hst) 0 hst.1.1 rfl rfl rfl (Nat.le_of_ble_eq_true rfl) ⟨rfl, rfl, ⟨(Nat.le_of_ble_eq_true rfl), (Nat.le_of_ble_eq_true rfl)⟩, ⟨by show _ ≤ 603072; omega, by show _ ≤ 7215210; omega⟩⟩ dL_law_469 (kcI fun z1_o w1_o hp => ?_)
  obtain ⟨rfl, hsu1, hexP⟩ := hp
  have hmu1 := hmu.pl (hexP.sub kPk_Pw)
  obtain ⟨fs19P, h19P⟩ := hmu1.obj
  refine k_aload_n h_o 2 dL_law_472 rfl rfl ?_
  refine k_callV (As := []) (rest := [.int (iI (m_cl g_o nr))]) h_o mX7_rules kq_5_8 (c_X7_rules hl0 hmu1) 19 h19P rfl rfl rfl (Nat.le_of_ble_eq_true rfl) ⟨rfl, rfl, ⟨(Nat.le_of_ble_eq_true rfl), (Nat.le_of_ble_eq_true rfl)⟩, ⟨by show _ ≤ 603072; omega, by show _ ≤ 7215210; omega⟩⟩ dL_law_473 (kcI fun zM w2_o hp => ?_)
  obtain ⟨rfl, hmu2, hexM⟩ := hp
  refine k_icmpS h_o 1847 dL_law_476 (by decide) ?_
  refine k_sub (lv' := [(0, .ref b_o), (1, .ref (ad 0)), (2, .ref (bd 25)), (3, .ref aO), (4, .ref aD), (5, .int (iI i_o))]) [0, 1, 2, 3, 4, 5] rfl ?_
  refine k_wd (k2 := k_o + 7) (n2 := n_o + 630) (by omega) (by omega) ?_
  exact kk _ ⟨_, bd, _, _, _, _, _, _, _, _, _, _, _, _, _, rfl, rfl, ((hexM 17 (by show ¬ (19 ≤ 17 ∧ 17 ≤ 44); omega)).trans ((hexP 17 (by show ¬ (17 ≤ 16 ∨ 100 ≤ 17); omega)).trans hO)), ((hexM 18 (by show ¬ (19 ≤ 18 ∧ 18 ≤ 44); omega)).trans ((hexP 18 (by show ¬ (18 ≤ 16 ∨ 100 ≤ 18); omega)).trans hD)), (hsu1.ox (hexM.sub kMk_Ox)), hmu2⟩

set_option maxHeartbeats 4000000 in
set_option maxRecDepth 100000 in
theorem law_work {E_o : kE} {X_o : kX} {k_o n_o b_o L_o : Nat} {xs : Nat → Int32} (hl0 : (kXl X_o).stackTraces = false) (h_o : kOk E_o X_o code RL 9 room_1) (hNc : kNc (kXs X_o)) (hsr : kSr E_o X_o b_o L_o xs) (hL : L_o ≤ 2560) {i_o : Int} (hi_o : 0 ≤ i_o ∧ i_o + 5 ≤ (L_o : Int)) (hk : k_o + 7 ≤ 603072) (hn : n_o + 630 ≤ 7215210) {w_o : kW} {ad : Nat → Nat} {nr : Nat} {g_o : Nat → Nat → Int} {T_o : Nat} {lts : Nat → Nat → Int} {cs : Nat → Int} {acs : Nat → Nat → Int} {ams : Nat → Int} {rel fnd : Int} {Ns : Nat → Nat → Nat} {bd : Nat → Nat} {th : Int} {aO aD : Nat} {fO : Nat → Int} {fD : Nat → UInt64} (hO : w_o 17 = some (aO, al 1 fO)) (hD : w_o 18 = some (aD, kDl 1 fD)) (hst : kSu w_o ad nr g_o T_o lts cs acs ams rel fnd Ns) (hmu : kMu w_o bd nr g_o T_o lts cs acs ams rel fnd th) (kk : ∀ w2_o : kW, kLI w2_o (ad 0) (bd 25) aO aD → kG E_o X_o 9 (k_o + 7) (n_o + 630) w2_o 1847 [(0, .ref b_o), (1, .ref (ad 0)), (2, .ref (bd 25)), (3, .ref aO), (4, .ref aD), (5, .int (iI i_o))] []) : kG E_o X_o 9 k_o n_o w_o 1689 [(0, .ref b_o), (1, .ref (ad 0)), (2, .ref (bd 25)), (3, .ref aO), (4, .ref aD), (5, .int (iI i_o))] [] := by
  obtain ⟨x1, hx1⟩ : ∃ z_o, z_o = (xs (i_o + 1).toNat).toInt := ⟨_, rfl⟩
  have hr1 : -2147483648 ≤ x1 ∧ x1 < 2147483648 := by rw [hx1]; exact iI_rg _
  obtain ⟨x2, hx2⟩ : ∃ z_o, z_o = (xs (i_o + 2).toNat).toInt := ⟨_, rfl⟩
  have hr2 : -2147483648 ≤ x2 ∧ x2 < 2147483648 := by rw [hx2]; exact iI_rg _
  obtain ⟨x3, hx3⟩ : ∃ z_o, z_o = (xs (i_o + 3).toNat).toInt := ⟨_, rfl⟩
  have hr3 : -2147483648 ≤ x3 ∧ x3 < 2147483648 := by rw [hx3]; exact iI_rg _
  obtain ⟨x4, hx4⟩ : ∃ z_o, z_o = (xs (i_o + 4).toNat).toInt := ⟨_, rfl⟩
  have hr4 : -2147483648 ≤ x4 ∧ x4 < 2147483648 := by rw [hx4]; exact iI_rg _
  obtain ⟨fs19, h19_o⟩ := hmu.obj
  refine k_aload_n h_o 1 dL_law_1689 rfl rfl ?_
  refine k_callV (As := []) (rest := []) h_o mX6_work kq_1_161 (c_X6_work hl0 hst) 0 hst.1.1 rfl rfl rfl (Nat.le_of_ble_eq_true rfl) ⟨rfl, rfl, ⟨(Nat.le_of_ble_eq_true rfl), (Nat.le_of_ble_eq_true rfl)⟩, ⟨by show _ ≤ 603072; omega, by show _ ≤ 7215210; omega⟩⟩ dL_law_1690 (kcL fun z1_o w1_o hp => ?_)
  obtain ⟨rfl, hsu1, hexP⟩ := hp
  have hmu1 := hmu.pl (hexP.sub kPk_Pw)
  obtain ⟨fs19P, h19P⟩ := hmu1.obj
  refine k_aload_n h_o 2 dL_law_1693 rfl rfl ?_
  refine k_callV (As := []) (rest := [.long (lI fnd)]) h_o mX7_work kq_5_164 (c_X7_work hl0 hmu1) 19 h19P rfl rfl rfl (Nat.le_of_ble_eq_true rfl) ⟨rfl, rfl, ⟨(Nat.le_of_ble_eq_true rfl), (Nat.le_of_ble_eq_true rfl)⟩, ⟨by show _ ≤ 603072; omega, by show _ ≤ 7215210; omega⟩⟩ dL_law_1694 (kcL fun zM w2_o hp => ?_)
  obtain ⟨rfl, hmu2, hexM⟩ := hp
  refine k_lcmpS h_o dL_law_1697 ?_
  refine k_ifeq h_o 1847 (by decide) dL_law_1698 (by decide) (fun h1698_o => ?_) (fun h1698_o => ?_)
  · refine k_sub (lv' := [(0, .ref b_o), (1, .ref (ad 0)), (2, .ref (bd 25)), (3, .ref aO), (4, .ref aD), (5, .int (iI i_o))]) [0, 1, 2, 3, 4, 5] rfl ?_
    refine k_wd (k2 := k_o + 7) (n2 := n_o + 630) (by omega) (by omega) ?_
    exact kk _ ⟨_, bd, _, _, _, _, _, _, _, _, _, _, _, _, _, rfl, rfl, ((hexM 17 (by show ¬ (19 ≤ 17 ∧ 17 ≤ 44); omega)).trans ((hexP 17 (by show ¬ (17 ≤ 16 ∨ 100 ≤ 17); omega)).trans hO)), ((hexM 18 (by show ¬ (19 ≤ 18 ∧ 18 ≤ 44); omega)).trans ((hexP 18 (by show ¬ (18 ≤ 16 ∨ 100 ≤ 18); omega)).trans hD)), (hsu1.ox (hexM.sub kMk_Ox)), hmu2⟩
  · exfalso; omega

set_option maxHeartbeats 4000000 in
set_option maxRecDepth 100000 in
theorem law_isSound {E_o : kE} {X_o : kX} {k_o n_o b_o L_o : Nat} {xs : Nat → Int32} (hl0 : (kXl X_o).stackTraces = false) (h_o : kOk E_o X_o code RL 9 room_1) (hNc : kNc (kXs X_o)) (hsr : kSr E_o X_o b_o L_o xs) (hL : L_o ≤ 2560) {i_o : Int} (hi_o : 0 ≤ i_o ∧ i_o + 5 ≤ (L_o : Int)) (hk : k_o + 7 ≤ 603072) (hn : n_o + 630 ≤ 7215210) {w_o : kW} {ad : Nat → Nat} {nr : Nat} {g_o : Nat → Nat → Int} {T_o : Nat} {lts : Nat → Nat → Int} {cs : Nat → Int} {acs : Nat → Nat → Int} {ams : Nat → Int} {rel fnd : Int} {Ns : Nat → Nat → Nat} {bd : Nat → Nat} {th : Int} {aO aD : Nat} {fO : Nat → Int} {fD : Nat → UInt64} (hO : w_o 17 = some (aO, al 1 fO)) (hD : w_o 18 = some (aD, kDl 1 fD)) (hst : kSu w_o ad nr g_o T_o lts cs acs ams rel fnd Ns) (hmu : kMu w_o bd nr g_o T_o lts cs acs ams rel fnd th) (kk : ∀ w2_o : kW, kLI w2_o (ad 0) (bd 25) aO aD → kG E_o X_o 9 (k_o + 7) (n_o + 630) w2_o 1847 [(0, .ref b_o), (1, .ref (ad 0)), (2, .ref (bd 25)), (3, .ref aO), (4, .ref aD), (5, .int (iI i_o))] []) : kG E_o X_o 9 k_o n_o w_o 1834 [(0, .ref b_o), (1, .ref (ad 0)), (2, .ref (bd 25)), (3, .ref aO), (4, .ref aD), (5, .int (iI i_o))] [] := by
  obtain ⟨x1, hx1⟩ : ∃ z_o, z_o = (xs (i_o + 1).toNat).toInt := ⟨_, rfl⟩
  have hr1 : -2147483648 ≤ x1 ∧ x1 < 2147483648 := by rw [hx1]; exact iI_rg _
  obtain ⟨x2, hx2⟩ : ∃ z_o, z_o = (xs (i_o + 2).toNat).toInt := ⟨_, rfl⟩
  have hr2 : -2147483648 ≤ x2 ∧ x2 < 2147483648 := by rw [hx2]; exact iI_rg _
  obtain ⟨x3, hx3⟩ : ∃ z_o, z_o = (xs (i_o + 3).toNat).toInt := ⟨_, rfl⟩
  have hr3 : -2147483648 ≤ x3 ∧ x3 < 2147483648 := by rw [hx3]; exact iI_rg _
  obtain ⟨x4, hx4⟩ : ∃ z_o, z_o = (xs (i_o + 4).toNat).toInt := ⟨_, rfl⟩
  have hr4 : -2147483648 ≤ x4 ∧ x4 < 2147483648 := by rw [hx4]; exact iI_rg _
  obtain ⟨fs19, h19_o⟩ := hmu.obj
  refine k_aload_n h_o 1 dL_law_1834 rfl rfl ?_
  refine k_callV (As := []) (rest := []) h_o mX6_isSound kq_1_165 (c_X6_isSound hl0 hst) 0 hst.1.1 rfl rfl rfl (Nat.le_of_ble_eq_true rfl) ⟨rfl, rfl, ⟨(Nat.le_of_ble_eq_true rfl), (Nat.le_of_ble_eq_true rfl)⟩, ⟨by show _ ≤ 603072; omega, by show _ ≤ 7215210; omega⟩⟩ dL_law_1835 (kcI fun z1_o w1_o hp => ?_)
  obtain ⟨rfl, hsu1, hexP⟩ := hp
  have hmu1 := hmu.pl (hexP.sub kPk_Pw)
  obtain ⟨fs19P, h19P⟩ := hmu1.obj
  refine k_aload_n h_o 2 dL_law_1838 rfl rfl ?_
  refine k_callV (As := []) (rest := [.int (iI 1)]) h_o mX7_isSound kq_5_176 (c_X7_isSound hl0 hmu1) 19 h19P rfl rfl rfl (Nat.le_of_ble_eq_true rfl) ⟨rfl, rfl, ⟨(Nat.le_of_ble_eq_true rfl), (Nat.le_of_ble_eq_true rfl)⟩, ⟨by show _ ≤ 603072; omega, by show _ ≤ 7215210; omega⟩⟩ dL_law_1839 (kcI fun zM w2_o hp => ?_)
  obtain ⟨rfl, hmu2, hexM⟩ := hp
  refine k_icmpS h_o 1847 dL_law_1842 (by decide) ?_
  refine k_sub (lv' := [(0, .ref b_o), (1, .ref (ad 0)), (2, .ref (bd 25)), (3, .ref aO), (4, .ref aD), (5, .int (iI i_o))]) [0, 1, 2, 3, 4, 5] rfl ?_
  refine k_wd (k2 := k_o + 7) (n2 := n_o + 630) (by omega) (by omega) ?_
  exact kk _ ⟨_, bd, _, _, _, _, _, _, _, _, _, _, _, _, _, rfl, rfl, ((hexM 17 (by show ¬ (19 ≤ 17 ∧ 17 ≤ 44); omega)).trans ((hexP 17 (by show ¬ (17 ≤ 16 ∨ 100 ≤ 17); omega)).trans hO)), ((hexM 18 (by show ¬ (19 ≤ 18 ∧ 18 ≤ 44); omega)).trans ((hexP 18 (by show ¬ (18 ≤ 16 ∨ 100 ≤ 18); omega)).trans hD)), (hsu1.ox (hexM.sub kMk_Ox)), hmu2⟩
