set_option maxHeartbeats 4000000 in
set_option maxRecDepth 100000 in
theorem law_replace {E_o : kE} {X_o : kX} {k_o n_o b_o L_o : Nat} {xs : Nat → Int32} (hl0 : (kXl X_o).stackTraces = false) (h_o : kOk E_o X_o code RL 9 room_1) (hNc : kNc (kXs X_o)) (hsr : kSr E_o X_o b_o L_o xs) (hL : L_o ≤ 2560) {i_o : Int} (hi_o : 0 ≤ i_o ∧ i_o + 5 ≤ (L_o : Int)) (hk : k_o + 7 ≤ 603072) (hn : n_o + 630 ≤ 7215210) {w_o : kW} {ad : Nat → Nat} {nr : Nat} {g_o : Nat → Nat → Int} {T_o : Nat} {lts : Nat → Nat → Int} {cs : Nat → Int} {acs : Nat → Nat → Int} {ams : Nat → Int} {rel fnd : Int} {Ns : Nat → Nat → Nat} {bd : Nat → Nat} {th : Int} {aO aD : Nat} {fO : Nat → Int} {fD : Nat → UInt64} (hO : w_o 17 = some (aO, al 1 fO)) (hD : w_o 18 = some (aD, kDl 1 fD)) (hst : kSu w_o ad nr g_o T_o lts cs acs ams rel fnd Ns) (hmu : kMu w_o bd nr g_o T_o lts cs acs ams rel fnd th) (kk : ∀ w2_o : kW, kLI w2_o (ad 0) (bd 25) aO aD → kG E_o X_o 9 (k_o + 7) (n_o + 630) w2_o 1847 [(0, .ref b_o), (1, .ref (ad 0)), (2, .ref (bd 25)), (3, .ref aO), (4, .ref aD), (5, .int (iI i_o))] []) : kG E_o X_o 9 k_o n_o w_o 605 [(0, .ref b_o), (1, .ref (ad 0)), (2, .ref (bd 25)), (3, .ref aO), (4, .ref aD), (5, .int (iI i_o))] [] := by
  obtain ⟨x1, hx1⟩ : ∃ z_o, z_o = (xs (i_o + 1).toNat).toInt := ⟨_, rfl⟩
  have hr1 : -2147483648 ≤ x1 ∧ x1 < 2147483648 := by rw [hx1]; exact iI_rg _
  obtain ⟨x2, hx2⟩ : ∃ z_o, z_o = (xs (i_o + 2).toNat).toInt := ⟨_, rfl⟩
  have hr2 : -2147483648 ≤ x2 ∧ x2 < 2147483648 := by rw [hx2]; exact iI_rg _
  obtain ⟨x3, hx3⟩ : ∃ z_o, z_o = (xs (i_o + 3).toNat).toInt := ⟨_, rfl⟩
  have hr3 : -2147483648 ≤ x3 ∧ x3 < 2147483648 := by rw [hx3]; exact iI_rg _
  obtain ⟨x4, hx4⟩ : ∃ z_o, z_o = (xs (i_o + 4).toNat).toInt := ⟨_, rfl⟩
  have hr4 : -2147483648 ≤ x4 ∧ x4 < 2147483648 := by rw [hx4]; exact iI_rg _
  obtain ⟨fs19, h19_o⟩ := hmu.obj
  refine k_aload_n h_o 1 dL_law_605 rfl rfl ?_
  refine k_aload_n h_o 0 dL_law_606 rfl rfl ?_
  refine k_iload h_o 5 dL_law_607 rfl ?_
  refine k_iconst h_o dL_law_609 ?_
  refine k_iadd h_o dL_law_610 ?_
  refine k_sld h_o hsr (x' := x1) (by omega) (by omega) hx1 dL_law_611 ?_
  refine k_aload_n h_o 0 dL_law_612 rfl rfl ?_
  refine k_iload h_o 5 dL_law_613 rfl ?_
  refine k_iconst h_o dL_law_615 ?_
  refine k_iadd h_o dL_law_616 ?_
  refine k_sld h_o hsr (x' := x2) (by omega) (by omega) hx2 dL_law_617 ?_
  refine k_aload_n h_o 0 dL_law_618 rfl rfl ?_
  refine k_iload h_o 5 dL_law_619 rfl ?_
  refine k_iconst h_o dL_law_621 ?_
  refine k_iadd h_o dL_law_622 ?_
  refine k_sld h_o hsr (x' := x3) (by omega) (by omega) hx3 dL_law_623 ?_
  refine k_aload_n h_o 3 dL_law_624 rfl rfl ?_
  refine k_callSWN (As := [.ref (ad 0), .int (iI x1), .int (iI x2), .int (iI x3), .ref aO]) (rest := []) h_o hNc mL_replace kq_3_129 (c_L_replace hl0 hst hr1 hr2 hr3 hO) rfl rfl (Nat.le_of_ble_eq_true rfl) ⟨rfl, rfl, ⟨(Nat.le_of_ble_eq_true rfl), (Nat.le_of_ble_eq_true rfl)⟩, ⟨by show _ ≤ 603072; omega, by show _ ≤ 7215210; omega⟩⟩ dL_law_625 (kcI fun zH w1_o hp => ?_)
  rcases hp with ⟨rfl, z1_o, rfl, e1, hO1, hexP, N2, hsu1⟩ | ⟨rfl, e1, hO1, hexP, hsu1⟩ | ⟨rfl, e1, hO1, hexP, hsu1⟩
  · have hmu1 := hmu.pl (hexP.sub kP7_Pw)
    obtain ⟨fs19P, h19P⟩ := hmu1.obj
    refine k_istore (lv' := [(6, .int (iI 0)), (0, .ref b_o), (1, .ref (ad 0)), (2, .ref (bd 25)), (3, .ref aO), (4, .ref aD), (5, .int (iI i_o))]) h_o dL_law_628 (by decide) rfl ?_
    refine k_aload_n h_o 3 dL_law_630 rfl rfl ?_
    refine k_aload_n h_o 1 dL_law_631 rfl rfl ?_
    refine k_iload h_o 6 dL_law_632 rfl ?_
    refine k_iconst h_o dL_law_634 ?_
    refine k_iadd h_o dL_law_635 ?_
    refine k_sld h_o hsr (x' := x1) (by omega) (by omega) hx1 dL_law_636 ?_
    refine k_aload_n h_o 1 dL_law_637 rfl rfl ?_
    refine k_iload h_o 6 dL_law_638 rfl ?_
    refine k_iconst h_o dL_law_640 ?_
    refine k_iadd h_o dL_law_641 ?_
    refine k_sld h_o hsr (x' := x2) (by omega) (by omega) hx2 dL_law_642 ?_
    refine k_aload_n h_o 1 dL_law_643 rfl rfl ?_
    refine k_iload h_o 6 dL_law_644 rfl ?_
    refine k_iconst h_o dL_law_646 ?_
    refine k_iadd h_o dL_law_647 ?_
    refine k_sld h_o hsr (x' := x3) (by omega) (by omega) hx3 dL_law_648 ?_
    refine k_callV (As := [.int (iI x1), .int (iI x2), .int (iI x3)]) (rest := []) h_o mX7_replace kq_5_47 (c_X7_replace hl0 hmu1 hr1 hr2 hr3) 19 h19P rfl rfl rfl (Nat.le_of_ble_eq_true rfl) ⟨rfl, rfl, ⟨(Nat.le_of_ble_eq_true rfl), (Nat.le_of_ble_eq_true rfl)⟩, ⟨by show _ ≤ 603072; omega, by show _ ≤ 7215210; omega⟩⟩ dL_law_649 (kcI fun zM w2_o hp => ?_)
    rcases hp with ⟨q1, rfl, hmu2, hexM⟩ | ⟨q1, hmu2, hexM⟩ | ⟨q1, hmu2, hexM⟩
    · obtain ⟨fs19M, h19M⟩ := hmu2.obj
      refine k_istore (lv' := [(7, .int (iI ((m_TT g_o nr (kup (lts x1.toNat) x2.toNat x3) 10 0 (cs x1.toNat - 1) : Nat) : Int))), (6, .int (iI 0)), (0, .ref b_o), (1, .ref (ad 0)), (2, .ref (bd 25)), (3, .ref aO), (4, .ref aD), (5, .int (iI i_o))]) h_o dL_law_652 (by decide) rfl ?_
      refine k_aload_n h_o 4 dL_law_654 rfl rfl ?_
      refine k_callV (As := []) (rest := []) h_o mX7_thrown kq_4_203 (c_X7_thrown hl0 hmu2) 19 h19M rfl rfl rfl (Nat.le_of_ble_eq_true rfl) ⟨rfl, rfl, ⟨(Nat.le_of_ble_eq_true rfl), (Nat.le_of_ble_eq_true rfl)⟩, ⟨by show _ ≤ 603072; omega, by show _ ≤ 7215210; omega⟩⟩ dL_law_655 (kcI fun z655_o w3_o hp => ?_)
      obtain ⟨rfl, rfl⟩ := hp
      refine k_iload h_o 1 dL_law_658 rfl ?_
      refine k_icmpS h_o 665 dL_law_660 (by decide) ?_
      refine k_iload h_o 1 dL_law_665 rfl ?_
      refine k_ifne h_o 682 (by decide) dL_law_667 (by decide) (fun h667_o => ?_) (fun h667_o => ?_)
      · exfalso; omega
      · refine k_aload_n h_o 5 dL_law_670 rfl rfl ?_
        refine k_iconst h_o dL_law_671 ?_
        refine k_lald h_o 17 ((hexM 17 (by show ¬ (19 ≤ 17 ∧ 17 ≤ 44); omega)).trans hO1) (by decide) (by decide) dL_law_672 ?_
        refine k_topL (z' := m_w ((m_TT g_o nr (kup (lts x1.toNat) x2.toNat x3) 10 0 (cs x1.toNat - 1) : Nat) : Int)) kup_eq ?_
        refine k_iload h_o 0 dL_law_673 rfl ?_
        refine k_i2lW h_o dL_law_675 ?_
        refine k_lcmpS h_o dL_law_676 ?_
        refine k_ifeq h_o 682 (by decide) dL_law_677 (by decide) (fun h677_o => ?_) (fun h677_o => ?_)
        · refine k_goto h_o 1847 dL_law_682 (by decide) ?_
          refine k_sub (lv' := [(0, .ref b_o), (1, .ref (ad 0)), (2, .ref (bd 25)), (3, .ref aO), (4, .ref aD), (5, .int (iI i_o))]) [2, 3, 4, 5, 6, 7] rfl ?_
          refine k_wd (k2 := k_o + 7) (n2 := n_o + 630) (by omega) (by omega) ?_
          exact kk _ ⟨_, bd, _, _, _, _, _, _, _, _, _, _, _, _, _, rfl, rfl, ((hexM 17 (by show ¬ (19 ≤ 17 ∧ 17 ≤ 44); omega)).trans hO1), ((hexM 18 (by show ¬ (19 ≤ 18 ∧ 18 ≤ 44); omega)).trans ((hexP 18 (by show ¬ (18 ≤ 17 ∨ 100 ≤ 18); omega)).trans hD)), (hsu1.ox (hexM.sub kMk_Ox)), hmu2⟩
        · exfalso; omega
    · exfalso; (first | omega | exact absurd q1 e1 | exact absurd e1 q1 | exact absurd q1.1 e1 | exact absurd e1 q1.1 | exact absurd e1.1 q1 | exact absurd q1 e1.1 | exact absurd e1.1 q1.1 | exact absurd q1.1 e1.1)
    · exfalso; (first | omega | exact absurd q1 e1 | exact absurd e1 q1 | exact absurd q1.1 e1 | exact absurd e1 q1.1 | exact absurd e1.1 q1 | exact absurd q1 e1.1 | exact absurd e1.1 q1.1 | exact absurd q1.1 e1.1)
  · have hmu1 := hmu.pl (hexP.sub kP7_Pw)
    obtain ⟨fs19P, h19P⟩ := hmu1.obj
    refine k_istore (lv' := [(6, .int (iI 1)), (0, .ref b_o), (1, .ref (ad 0)), (2, .ref (bd 25)), (3, .ref aO), (4, .ref aD), (5, .int (iI i_o))]) h_o dL_law_628 (by decide) rfl ?_
    refine k_aload_n h_o 3 dL_law_630 rfl rfl ?_
    refine k_aload_n h_o 1 dL_law_631 rfl rfl ?_
    refine k_iload h_o 6 dL_law_632 rfl ?_
    refine k_iconst h_o dL_law_634 ?_
    refine k_iadd h_o dL_law_635 ?_
    refine k_sld h_o hsr (x' := x1) (by omega) (by omega) hx1 dL_law_636 ?_
    refine k_aload_n h_o 1 dL_law_637 rfl rfl ?_
    refine k_iload h_o 6 dL_law_638 rfl ?_
    refine k_iconst h_o dL_law_640 ?_
    refine k_iadd h_o dL_law_641 ?_
    refine k_sld h_o hsr (x' := x2) (by omega) (by omega) hx2 dL_law_642 ?_
    refine k_aload_n h_o 1 dL_law_643 rfl rfl ?_
    refine k_iload h_o 6 dL_law_644 rfl ?_
    refine k_iconst h_o dL_law_646 ?_
    refine k_iadd h_o dL_law_647 ?_
    refine k_sld h_o hsr (x' := x3) (by omega) (by omega) hx3 dL_law_648 ?_
    refine k_callV (As := [.int (iI x1), .int (iI x2), .int (iI x3)]) (rest := []) h_o mX7_replace kq_5_47 (c_X7_replace hl0 hmu1 hr1 hr2 hr3) 19 h19P rfl rfl rfl (Nat.le_of_ble_eq_true rfl) ⟨rfl, rfl, ⟨(Nat.le_of_ble_eq_true rfl), (Nat.le_of_ble_eq_true rfl)⟩, ⟨by show _ ≤ 603072; omega, by show _ ≤ 7215210; omega⟩⟩ dL_law_649 (kcI fun zM w2_o hp => ?_)
    rcases hp with ⟨q1, rfl, hmu2, hexM⟩ | ⟨q1, hmu2, hexM⟩ | ⟨q1, hmu2, hexM⟩
    · exfalso; (first | omega | exact absurd q1 e1 | exact absurd e1 q1 | exact absurd q1.1 e1 | exact absurd e1 q1.1 | exact absurd e1.1 q1 | exact absurd q1 e1.1 | exact absurd e1.1 q1.1 | exact absurd q1.1 e1.1)
    · obtain ⟨fs19M, h19M⟩ := hmu2.obj
      refine k_istore (lv' := [(7, .int (iI zM)), (6, .int (iI 1)), (0, .ref b_o), (1, .ref (ad 0)), (2, .ref (bd 25)), (3, .ref aO), (4, .ref aD), (5, .int (iI i_o))]) h_o dL_law_652 (by decide) rfl ?_
      refine k_aload_n h_o 4 dL_law_654 rfl rfl ?_
      refine k_callV (As := []) (rest := []) h_o mX7_thrown kq_4_203 (c_X7_thrown hl0 hmu2) 19 h19M rfl rfl rfl (Nat.le_of_ble_eq_true rfl) ⟨rfl, rfl, ⟨(Nat.le_of_ble_eq_true rfl), (Nat.le_of_ble_eq_true rfl)⟩, ⟨by show _ ≤ 603072; omega, by show _ ≤ 7215210; omega⟩⟩ dL_law_655 (kcI fun z655_o w3_o hp => ?_)
      obtain ⟨rfl, rfl⟩ := hp
      refine k_iload h_o 1 dL_law_658 rfl ?_
      refine k_icmpS h_o 665 dL_law_660 (by decide) ?_
      refine k_iload h_o 1 dL_law_665 rfl ?_
      refine k_ifne h_o 682 (by decide) dL_law_667 (by decide) (fun h667_o => ?_) (fun h667_o => ?_)
      · refine k_goto h_o 1847 dL_law_682 (by decide) ?_
        refine k_sub (lv' := [(0, .ref b_o), (1, .ref (ad 0)), (2, .ref (bd 25)), (3, .ref aO), (4, .ref aD), (5, .int (iI i_o))]) [2, 3, 4, 5, 6, 7] rfl ?_
        refine k_wd (k2 := k_o + 7) (n2 := n_o + 630) (by omega) (by omega) ?_
        exact kk _ ⟨_, bd, _, _, _, _, _, _, _, _, _, _, _, _, _, rfl, rfl, ((hexM 17 (by show ¬ (19 ≤ 17 ∧ 17 ≤ 44); omega)).trans hO1), ((hexM 18 (by show ¬ (19 ≤ 18 ∧ 18 ≤ 44); omega)).trans ((hexP 18 (by show ¬ (18 ≤ 17 ∨ 100 ≤ 18); omega)).trans hD)), (hsu1.ox (hexM.sub kMk_Ox)), hmu2⟩
      · exfalso; omega
    · exfalso; (first | omega | exact absurd q1 e1 | exact absurd e1 q1 | exact absurd q1.1 e1 | exact absurd e1 q1.1 | exact absurd e1.1 q1 | exact absurd q1 e1.1 | exact absurd e1.1 q1.1 | exact absurd q1.1 e1.1)
  · have hmu1 := hmu.pl (hexP.sub kP7_Pw)
    obtain ⟨fs19P, h19P⟩ := hmu1.obj
    refine k_istore (lv' := [(6, .int (iI 2)), (0, .ref b_o), (1, .ref (ad 0)), (2, .ref (bd 25)), (3, .ref aO), (4, .ref aD), (5, .int (iI i_o))]) h_o dL_law_628 (by decide) rfl ?_
    refine k_aload_n h_o 3 dL_law_630 rfl rfl ?_
    refine k_aload_n h_o 1 dL_law_631 rfl rfl ?_
    refine k_iload h_o 6 dL_law_632 rfl ?_
    refine k_iconst h_o dL_law_634 ?_
    refine k_iadd h_o dL_law_635 ?_
    refine k_sld h_o hsr (x' := x1) (by omega) (by omega) hx1 dL_law_636 ?_
    refine k_aload_n h_o 1 dL_law_637 rfl rfl ?_
    refine k_iload h_o 6 dL_law_638 rfl ?_
    refine k_iconst h_o dL_law_640 ?_
    refine k_iadd h_o dL_law_641 ?_
    refine k_sld h_o hsr (x' := x2) (by omega) (by omega) hx2 dL_law_642 ?_
    refine k_aload_n h_o 1 dL_law_643 rfl rfl ?_
    refine k_iload h_o 6 dL_law_644 rfl ?_
    refine k_iconst h_o dL_law_646 ?_
    refine k_iadd h_o dL_law_647 ?_
    refine k_sld h_o hsr (x' := x3) (by omega) (by omega) hx3 dL_law_648 ?_
    refine k_callV (As := [.int (iI x1), .int (iI x2), .int (iI x3)]) (rest := []) h_o mX7_replace kq_5_47 (c_X7_replace hl0 hmu1 hr1 hr2 hr3) 19 h19P rfl rfl rfl (Nat.le_of_ble_eq_true rfl) ⟨rfl, rfl, ⟨(Nat.le_of_ble_eq_true rfl), (Nat.le_of_ble_eq_true rfl)⟩, ⟨by show _ ≤ 603072; omega, by show _ ≤ 7215210; omega⟩⟩ dL_law_649 (kcI fun zM w2_o hp => ?_)
    rcases hp with ⟨q1, rfl, hmu2, hexM⟩ | ⟨q1, hmu2, hexM⟩ | ⟨q1, hmu2, hexM⟩
    · exfalso; (first | omega | exact absurd q1 e1 | exact absurd e1 q1 | exact absurd q1.1 e1 | exact absurd e1 q1.1 | exact absurd e1.1 q1 | exact absurd q1 e1.1 | exact absurd e1.1 q1.1 | exact absurd q1.1 e1.1)
    · exfalso; (first | omega | exact absurd q1 e1 | exact absurd e1 q1 | exact absurd q1.1 e1 | exact absurd e1 q1.1 | exact absurd e1.1 q1 | exact absurd q1 e1.1 | exact absurd e1.1 q1.1 | exact absurd q1.1 e1.1)
    · obtain ⟨fs19M, h19M⟩ := hmu2.obj
      refine k_istore (lv' := [(7, .int (iI zM)), (6, .int (iI 2)), (0, .ref b_o), (1, .ref (ad 0)), (2, .ref (bd 25)), (3, .ref aO), (4, .ref aD), (5, .int (iI i_o))]) h_o dL_law_652 (by decide) rfl ?_
      refine k_aload_n h_o 4 dL_law_654 rfl rfl ?_
      refine k_callV (As := []) (rest := []) h_o mX7_thrown kq_4_203 (c_X7_thrown hl0 hmu2) 19 h19M rfl rfl rfl (Nat.le_of_ble_eq_true rfl) ⟨rfl, rfl, ⟨(Nat.le_of_ble_eq_true rfl), (Nat.le_of_ble_eq_true rfl)⟩, ⟨by show _ ≤ 603072; omega, by show _ ≤ 7215210; omega⟩⟩ dL_law_655 (kcI fun z655_o w3_o hp => ?_)
      obtain ⟨rfl, rfl⟩ := hp
      refine k_iload h_o 1 dL_law_658 rfl ?_
      refine k_icmpS h_o 665 dL_law_660 (by decide) ?_
      refine k_iload h_o 1 dL_law_665 rfl ?_
      refine k_ifne h_o 682 (by decide) dL_law_667 (by decide) (fun h667_o => ?_) (fun h667_o => ?_)
      · refine k_goto h_o 1847 dL_law_682 (by decide) ?_
        refine k_sub (lv' := [(0, .ref b_o), (1, .ref (ad 0)), (2, .ref (bd 25)), (3, .ref aO), (4, .ref aD), (5, .int (iI i_o))]) [2, 3, 4, 5, 6, 7] rfl ?_
        refine k_wd (k2 := k_o + 7) (n2 := n_o + 630) (by omega) (by omega) ?_
        exact kk _ ⟨_, bd, _, _, _, _, _, _, _, _, _, _, _, _, _, rfl, rfl, ((hexM 17 (by show ¬ (19 ≤ 17 ∧ 17 ≤ 44); omega)).trans hO1), ((hexM 18 (by show ¬ (19 ≤ 18 ∧ 18 ≤ 44); omega)).trans ((hexP 18 (by show ¬ (18 ≤ 17 ∨ 100 ≤ 18); omega)).trans hD)), (hsu1.ox (hexM.sub kMk_Ox)), hmu2⟩
      · exfalso; omega

set_option maxHeartbeats 4000000 in
set_option maxRecDepth 100000 in
theorem law_length {E_o : kE} {X_o : kX} {k_o n_o b_o L_o : Nat} {xs : Nat → Int32} (hl0 : (kXl X_o).stackTraces = false) (h_o : kOk E_o X_o code RL 9 room_1) (hNc : kNc (kXs X_o)) (hsr : kSr E_o X_o b_o L_o xs) (hL : L_o ≤ 2560) {i_o : Int} (hi_o : 0 ≤ i_o ∧ i_o + 5 ≤ (L_o : Int)) (hk : k_o + 7 ≤ 603072) (hn : n_o + 630 ≤ 7215210) {w_o : kW} {ad : Nat → Nat} {nr : Nat} {g_o : Nat → Nat → Int} {T_o : Nat} {lts : Nat → Nat → Int} {cs : Nat → Int} {acs : Nat → Nat → Int} {ams : Nat → Int} {rel fnd : Int} {Ns : Nat → Nat → Nat} {bd : Nat → Nat} {th : Int} {aO aD : Nat} {fO : Nat → Int} {fD : Nat → UInt64} (hO : w_o 17 = some (aO, al 1 fO)) (hD : w_o 18 = some (aD, kDl 1 fD)) (hst : kSu w_o ad nr g_o T_o lts cs acs ams rel fnd Ns) (hmu : kMu w_o bd nr g_o T_o lts cs acs ams rel fnd th) (kk : ∀ w2_o : kW, kLI w2_o (ad 0) (bd 25) aO aD → kG E_o X_o 9 (k_o + 7) (n_o + 630) w2_o 1847 [(0, .ref b_o), (1, .ref (ad 0)), (2, .ref (bd 25)), (3, .ref aO), (4, .ref aD), (5, .int (iI i_o))] []) : kG E_o X_o 9 k_o n_o w_o 685 [(0, .ref b_o), (1, .ref (ad 0)), (2, .ref (bd 25)), (3, .ref aO), (4, .ref aD), (5, .int (iI i_o))] [] := by
  obtain ⟨x1, hx1⟩ : ∃ z_o, z_o = (xs (i_o + 1).toNat).toInt := ⟨_, rfl⟩
  have hr1 : -2147483648 ≤ x1 ∧ x1 < 2147483648 := by rw [hx1]; exact iI_rg _
  obtain ⟨x2, hx2⟩ : ∃ z_o, z_o = (xs (i_o + 2).toNat).toInt := ⟨_, rfl⟩
  have hr2 : -2147483648 ≤ x2 ∧ x2 < 2147483648 := by rw [hx2]; exact iI_rg _
  obtain ⟨x3, hx3⟩ : ∃ z_o, z_o = (xs (i_o + 3).toNat).toInt := ⟨_, rfl⟩
  have hr3 : -2147483648 ≤ x3 ∧ x3 < 2147483648 := by rw [hx3]; exact iI_rg _
  obtain ⟨x4, hx4⟩ : ∃ z_o, z_o = (xs (i_o + 4).toNat).toInt := ⟨_, rfl⟩
  have hr4 : -2147483648 ≤ x4 ∧ x4 < 2147483648 := by rw [hx4]; exact iI_rg _
  obtain ⟨fs19, h19_o⟩ := hmu.obj
  refine k_aload_n h_o 1 dL_law_685 rfl rfl ?_
  refine k_aload_n h_o 0 dL_law_686 rfl rfl ?_
  refine k_iload h_o 5 dL_law_687 rfl ?_
  refine k_iconst h_o dL_law_689 ?_
  refine k_iadd h_o dL_law_690 ?_
  refine k_sld h_o hsr (x' := x1) (by omega) (by omega) hx1 dL_law_691 ?_
  refine k_aload_n h_o 3 dL_law_692 rfl rfl ?_
  refine k_callSWN (As := [.ref (ad 0), .int (iI x1), .ref aO]) (rest := []) h_o hNc mL_length kq_3_140 (c_L_length hl0 hst hr1 hO) rfl rfl (Nat.le_of_ble_eq_true rfl) ⟨rfl, rfl, ⟨(Nat.le_of_ble_eq_true rfl), (Nat.le_of_ble_eq_true rfl)⟩, ⟨by show _ ≤ 603072; omega, by show _ ≤ 7215210; omega⟩⟩ dL_law_693 (kcI fun zH w1_o hp => ?_)
  rcases hp with ⟨rfl, z1_o, rfl, e1, hO1, hexP, hsu1⟩ | ⟨rfl, e1, hO1, hexP, hsu1⟩
  · have hmu1 := hmu.pl (hexP.sub kP7_Pw)
    obtain ⟨fs19P, h19P⟩ := hmu1.obj
    refine k_istore (lv' := [(6, .int (iI 0)), (0, .ref b_o), (1, .ref (ad 0)), (2, .ref (bd 25)), (3, .ref aO), (4, .ref aD), (5, .int (iI i_o))]) h_o dL_law_696 (by decide) rfl ?_
    refine k_aload_n h_o 3 dL_law_698 rfl rfl ?_
    refine k_aload_n h_o 1 dL_law_699 rfl rfl ?_
    refine k_iload h_o 6 dL_law_700 rfl ?_
    refine k_iconst h_o dL_law_702 ?_
    refine k_iadd h_o dL_law_703 ?_
    refine k_sld h_o hsr (x' := x1) (by omega) (by omega) hx1 dL_law_704 ?_
    refine k_callV (As := [.int (iI x1)]) (rest := []) h_o mX7_length kq_5_55 (c_X7_length hl0 hmu1 hr1) 19 h19P rfl rfl rfl (Nat.le_of_ble_eq_true rfl) ⟨rfl, rfl, ⟨(Nat.le_of_ble_eq_true rfl), (Nat.le_of_ble_eq_true rfl)⟩, ⟨by show _ ≤ 603072; omega, by show _ ≤ 7215210; omega⟩⟩ dL_law_705 (kcI fun zM w2_o hp => ?_)
    rcases hp with ⟨q1, rfl, hmu2, hexM⟩ | ⟨q1, hmu2, hexM⟩
    · obtain ⟨fs19M, h19M⟩ := hmu2.obj
      refine k_istore (lv' := [(7, .int (iI (cs x1.toNat))), (6, .int (iI 0)), (0, .ref b_o), (1, .ref (ad 0)), (2, .ref (bd 25)), (3, .ref aO), (4, .ref aD), (5, .int (iI i_o))]) h_o dL_law_708 (by decide) rfl ?_
      refine k_aload_n h_o 4 dL_law_710 rfl rfl ?_
      refine k_callV (As := []) (rest := []) h_o mX7_thrown kq_4_203 (c_X7_thrown hl0 hmu2) 19 h19M rfl rfl rfl (Nat.le_of_ble_eq_true rfl) ⟨rfl, rfl, ⟨(Nat.le_of_ble_eq_true rfl), (Nat.le_of_ble_eq_true rfl)⟩, ⟨by show _ ≤ 603072; omega, by show _ ≤ 7215210; omega⟩⟩ dL_law_711 (kcI fun z711_o w3_o hp => ?_)
      obtain ⟨rfl, rfl⟩ := hp
      refine k_iload h_o 1 dL_law_714 rfl ?_
      refine k_icmpS h_o 721 dL_law_716 (by decide) ?_
      refine k_iload h_o 1 dL_law_721 rfl ?_
      refine k_ifne h_o 738 (by decide) dL_law_723 (by decide) (fun h723_o => ?_) (fun h723_o => ?_)
      · exfalso; omega
      · refine k_aload_n h_o 5 dL_law_726 rfl rfl ?_
        refine k_iconst h_o dL_law_727 ?_
        refine k_lald h_o 17 ((hexM 17 (by show ¬ (19 ≤ 17 ∧ 17 ≤ 44); omega)).trans hO1) (by decide) (by decide) dL_law_728 ?_
        refine k_topL (z' := m_w (cs x1.toNat)) kup_eq ?_
        refine k_iload h_o 0 dL_law_729 rfl ?_
        refine k_i2lW h_o dL_law_731 ?_
        refine k_lcmpS h_o dL_law_732 ?_
        refine k_ifeq h_o 738 (by decide) dL_law_733 (by decide) (fun h733_o => ?_) (fun h733_o => ?_)
        · refine k_goto h_o 1847 dL_law_738 (by decide) ?_
          refine k_sub (lv' := [(0, .ref b_o), (1, .ref (ad 0)), (2, .ref (bd 25)), (3, .ref aO), (4, .ref aD), (5, .int (iI i_o))]) [2, 3, 4, 5, 6, 7] rfl ?_
          refine k_wd (k2 := k_o + 7) (n2 := n_o + 630) (by omega) (by omega) ?_
          exact kk _ ⟨_, bd, _, _, _, _, _, _, _, _, _, _, _, _, _, rfl, rfl, ((hexM 17 (by show ¬ (19 ≤ 17 ∧ 17 ≤ 44); omega)).trans hO1), ((hexM 18 (by show ¬ (19 ≤ 18 ∧ 18 ≤ 44); omega)).trans ((hexP 18 (by show ¬ (18 ≤ 17 ∨ 100 ≤ 18); omega)).trans hD)), (hsu1.ox (hexM.sub kMk_Ox)), hmu2⟩
        · exfalso; omega
    · exfalso; (first | omega | exact absurd q1 e1 | exact absurd e1 q1 | exact absurd q1.1 e1 | exact absurd e1 q1.1 | exact absurd e1.1 q1 | exact absurd q1 e1.1 | exact absurd e1.1 q1.1 | exact absurd q1.1 e1.1)
  · have hmu1 := hmu.pl (hexP.sub kP7_Pw)
    obtain ⟨fs19P, h19P⟩ := hmu1.obj
    refine k_istore (lv' := [(6, .int (iI 1)), (0, .ref b_o), (1, .ref (ad 0)), (2, .ref (bd 25)), (3, .ref aO), (4, .ref aD), (5, .int (iI i_o))]) h_o dL_law_696 (by decide) rfl ?_
    refine k_aload_n h_o 3 dL_law_698 rfl rfl ?_
    refine k_aload_n h_o 1 dL_law_699 rfl rfl ?_
    refine k_iload h_o 6 dL_law_700 rfl ?_
    refine k_iconst h_o dL_law_702 ?_
    refine k_iadd h_o dL_law_703 ?_
    refine k_sld h_o hsr (x' := x1) (by omega) (by omega) hx1 dL_law_704 ?_
    refine k_callV (As := [.int (iI x1)]) (rest := []) h_o mX7_length kq_5_55 (c_X7_length hl0 hmu1 hr1) 19 h19P rfl rfl rfl (Nat.le_of_ble_eq_true rfl) ⟨rfl, rfl, ⟨(Nat.le_of_ble_eq_true rfl), (Nat.le_of_ble_eq_true rfl)⟩, ⟨by show _ ≤ 603072; omega, by show _ ≤ 7215210; omega⟩⟩ dL_law_705 (kcI fun zM w2_o hp => ?_)
    rcases hp with ⟨q1, rfl, hmu2, hexM⟩ | ⟨q1, hmu2, hexM⟩
    · exfalso; (first | omega | exact absurd q1 e1 | exact absurd e1 q1 | exact absurd q1.1 e1 | exact absurd e1 q1.1 | exact absurd e1.1 q1 | exact absurd q1 e1.1 | exact absurd e1.1 q1.1 | exact absurd q1.1 e1.1)
    · obtain ⟨fs19M, h19M⟩ := hmu2.obj
      refine k_istore (lv' := [(7, .int (iI zM)), (6, .int (iI 1)), (0, .ref b_o), (1, .ref (ad 0)), (2, .ref (bd 25)), (3, .ref aO), (4, .ref aD), (5, .int (iI i_o))]) h_o dL_law_708 (by decide) rfl ?_
      refine k_aload_n h_o 4 dL_law_710 rfl rfl ?_
      refine k_callV (As := []) (rest := []) h_o mX7_thrown kq_4_203 (c_X7_thrown hl0 hmu2) 19 h19M rfl rfl rfl (Nat.le_of_ble_eq_true rfl) ⟨rfl, rfl, ⟨(Nat.le_of_ble_eq_true rfl), (Nat.le_of_ble_eq_true rfl)⟩, ⟨by show _ ≤ 603072; omega, by show _ ≤ 7215210; omega⟩⟩ dL_law_711 (kcI fun z711_o w3_o hp => ?_)
      obtain ⟨rfl, rfl⟩ := hp
      refine k_iload h_o 1 dL_law_714 rfl ?_
      refine k_icmpS h_o 721 dL_law_716 (by decide) ?_
      refine k_iload h_o 1 dL_law_721 rfl ?_
      refine k_ifne h_o 738 (by decide) dL_law_723 (by decide) (fun h723_o => ?_) (fun h723_o => ?_)
      · refine k_goto h_o 1847 dL_law_738 (by decide) ?_
        refine k_sub (lv' := [(0, .ref b_o), (1, .ref (ad 0)), (2, .ref (bd 25)), (3, .ref aO), (4, .ref aD), (5, .int (iI i_o))]) [2, 3, 4, 5, 6, 7] rfl ?_
        refine k_wd (k2 := k_o + 7) (n2 := n_o + 630) (by omega) (by omega) ?_
        exact kk _ ⟨_, bd, _, _, _, _, _, _, _, _, _, _, _, _, _, rfl, rfl, ((hexM 17 (by show ¬ (19 ≤ 17 ∧ 17 ≤ 44); omega)).trans hO1), ((hexM 18 (by show ¬ (19 ≤ 18 ∧ 18 ≤ 44); omega)).trans ((hexP 18 (by show ¬ (18 ≤ 17 ∨ 100 ≤ 18); omega)).trans hD)), (hsu1.ox (hexM.sub kMk_Ox)), hmu2⟩
      · exfalso; omega

set_option maxHeartbeats 4000000 in
set_option maxRecDepth 100000 in
theorem law_letterAt {E_o : kE} {X_o : kX} {k_o n_o b_o L_o : Nat} {xs : Nat → Int32} (hl0 : (kXl X_o).stackTraces = false) (h_o : kOk E_o X_o code RL 9 room_1) (hNc : kNc (kXs X_o)) (hsr : kSr E_o X_o b_o L_o xs) (hL : L_o ≤ 2560) {i_o : Int} (hi_o : 0 ≤ i_o ∧ i_o + 5 ≤ (L_o : Int)) (hk : k_o + 7 ≤ 603072) (hn : n_o + 630 ≤ 7215210) {w_o : kW} {ad : Nat → Nat} {nr : Nat} {g_o : Nat → Nat → Int} {T_o : Nat} {lts : Nat → Nat → Int} {cs : Nat → Int} {acs : Nat → Nat → Int} {ams : Nat → Int} {rel fnd : Int} {Ns : Nat → Nat → Nat} {bd : Nat → Nat} {th : Int} {aO aD : Nat} {fO : Nat → Int} {fD : Nat → UInt64} (hO : w_o 17 = some (aO, al 1 fO)) (hD : w_o 18 = some (aD, kDl 1 fD)) (hst : kSu w_o ad nr g_o T_o lts cs acs ams rel fnd Ns) (hmu : kMu w_o bd nr g_o T_o lts cs acs ams rel fnd th) (kk : ∀ w2_o : kW, kLI w2_o (ad 0) (bd 25) aO aD → kG E_o X_o 9 (k_o + 7) (n_o + 630) w2_o 1847 [(0, .ref b_o), (1, .ref (ad 0)), (2, .ref (bd 25)), (3, .ref aO), (4, .ref aD), (5, .int (iI i_o))] []) : kG E_o X_o 9 k_o n_o w_o 741 [(0, .ref b_o), (1, .ref (ad 0)), (2, .ref (bd 25)), (3, .ref aO), (4, .ref aD), (5, .int (iI i_o))] [] := by
  obtain ⟨x1, hx1⟩ : ∃ z_o, z_o = (xs (i_o + 1).toNat).toInt := ⟨_, rfl⟩
  have hr1 : -2147483648 ≤ x1 ∧ x1 < 2147483648 := by rw [hx1]; exact iI_rg _
  obtain ⟨x2, hx2⟩ : ∃ z_o, z_o = (xs (i_o + 2).toNat).toInt := ⟨_, rfl⟩
  have hr2 : -2147483648 ≤ x2 ∧ x2 < 2147483648 := by rw [hx2]; exact iI_rg _
  obtain ⟨x3, hx3⟩ : ∃ z_o, z_o = (xs (i_o + 3).toNat).toInt := ⟨_, rfl⟩
  have hr3 : -2147483648 ≤ x3 ∧ x3 < 2147483648 := by rw [hx3]; exact iI_rg _
  obtain ⟨x4, hx4⟩ : ∃ z_o, z_o = (xs (i_o + 4).toNat).toInt := ⟨_, rfl⟩
  have hr4 : -2147483648 ≤ x4 ∧ x4 < 2147483648 := by rw [hx4]; exact iI_rg _
  obtain ⟨fs19, h19_o⟩ := hmu.obj
  refine k_aload_n h_o 1 dL_law_741 rfl rfl ?_
  refine k_aload_n h_o 0 dL_law_742 rfl rfl ?_
  refine k_iload h_o 5 dL_law_743 rfl ?_
  refine k_iconst h_o dL_law_745 ?_
  refine k_iadd h_o dL_law_746 ?_
  refine k_sld h_o hsr (x' := x1) (by omega) (by omega) hx1 dL_law_747 ?_
  refine k_aload_n h_o 0 dL_law_748 rfl rfl ?_
  refine k_iload h_o 5 dL_law_749 rfl ?_
  refine k_iconst h_o dL_law_751 ?_
  refine k_iadd h_o dL_law_752 ?_
  refine k_sld h_o hsr (x' := x2) (by omega) (by omega) hx2 dL_law_753 ?_
  refine k_aload_n h_o 3 dL_law_754 rfl rfl ?_
  refine k_callSWN (As := [.ref (ad 0), .int (iI x1), .int (iI x2), .ref aO]) (rest := []) h_o hNc mL_letterAt kq_3_147 (c_L_letterAt hl0 hst hr1 hr2 hO) rfl rfl (Nat.le_of_ble_eq_true rfl) ⟨rfl, rfl, ⟨(Nat.le_of_ble_eq_true rfl), (Nat.le_of_ble_eq_true rfl)⟩, ⟨by show _ ≤ 603072; omega, by show _ ≤ 7215210; omega⟩⟩ dL_law_755 (kcI fun zH w1_o hp => ?_)
  rcases hp with ⟨rfl, z1_o, rfl, e1, hO1, hexP, hsu1⟩ | ⟨rfl, e1, hO1, hexP, hsu1⟩
  · have hmu1 := hmu.pl (hexP.sub kP7_Pw)
    obtain ⟨fs19P, h19P⟩ := hmu1.obj
    refine k_istore (lv' := [(6, .int (iI 0)), (0, .ref b_o), (1, .ref (ad 0)), (2, .ref (bd 25)), (3, .ref aO), (4, .ref aD), (5, .int (iI i_o))]) h_o dL_law_758 (by decide) rfl ?_
    refine k_aload_n h_o 3 dL_law_760 rfl rfl ?_
    refine k_aload_n h_o 1 dL_law_761 rfl rfl ?_
    refine k_iload h_o 6 dL_law_762 rfl ?_
    refine k_iconst h_o dL_law_764 ?_
    refine k_iadd h_o dL_law_765 ?_
    refine k_sld h_o hsr (x' := x1) (by omega) (by omega) hx1 dL_law_766 ?_
    refine k_aload_n h_o 1 dL_law_767 rfl rfl ?_
    refine k_iload h_o 6 dL_law_768 rfl ?_
    refine k_iconst h_o dL_law_770 ?_
    refine k_iadd h_o dL_law_771 ?_
    refine k_sld h_o hsr (x' := x2) (by omega) (by omega) hx2 dL_law_772 ?_
    refine k_callV (As := [.int (iI x1), .int (iI x2)]) (rest := []) h_o mX7_letterAt kq_5_63 (c_X7_letterAt hl0 hmu1 hr1 hr2) 19 h19P rfl rfl rfl (Nat.le_of_ble_eq_true rfl) ⟨rfl, rfl, ⟨(Nat.le_of_ble_eq_true rfl), (Nat.le_of_ble_eq_true rfl)⟩, ⟨by show _ ≤ 603072; omega, by show _ ≤ 7215210; omega⟩⟩ dL_law_773 (kcI fun zM w2_o hp => ?_)
    rcases hp with ⟨q1, rfl, hmu2, hexM⟩ | ⟨q1, hmu2, hexM⟩
    · obtain ⟨fs19M, h19M⟩ := hmu2.obj
      refine k_istore (lv' := [(7, .int (iI (lts x1.toNat x2.toNat))), (6, .int (iI 0)), (0, .ref b_o), (1, .ref (ad 0)), (2, .ref (bd 25)), (3, .ref aO), (4, .ref aD), (5, .int (iI i_o))]) h_o dL_law_776 (by decide) rfl ?_
      refine k_aload_n h_o 4 dL_law_778 rfl rfl ?_
      refine k_callV (As := []) (rest := []) h_o mX7_thrown kq_4_203 (c_X7_thrown hl0 hmu2) 19 h19M rfl rfl rfl (Nat.le_of_ble_eq_true rfl) ⟨rfl, rfl, ⟨(Nat.le_of_ble_eq_true rfl), (Nat.le_of_ble_eq_true rfl)⟩, ⟨by show _ ≤ 603072; omega, by show _ ≤ 7215210; omega⟩⟩ dL_law_779 (kcI fun z779_o w3_o hp => ?_)
      obtain ⟨rfl, rfl⟩ := hp
      refine k_iload h_o 1 dL_law_782 rfl ?_
      refine k_icmpS h_o 789 dL_law_784 (by decide) ?_
      refine k_iload h_o 1 dL_law_789 rfl ?_
      refine k_ifne h_o 806 (by decide) dL_law_791 (by decide) (fun h791_o => ?_) (fun h791_o => ?_)
      · exfalso; omega
      · refine k_aload_n h_o 5 dL_law_794 rfl rfl ?_
        refine k_iconst h_o dL_law_795 ?_
        refine k_lald h_o 17 ((hexM 17 (by show ¬ (19 ≤ 17 ∧ 17 ≤ 44); omega)).trans hO1) (by decide) (by decide) dL_law_796 ?_
        refine k_topL (z' := m_w (lts x1.toNat x2.toNat)) kup_eq ?_
        refine k_iload h_o 0 dL_law_797 rfl ?_
        refine k_i2lW h_o dL_law_799 ?_
        refine k_lcmpS h_o dL_law_800 ?_
        refine k_ifeq h_o 806 (by decide) dL_law_801 (by decide) (fun h801_o => ?_) (fun h801_o => ?_)
        · refine k_goto h_o 1847 dL_law_806 (by decide) ?_
          refine k_sub (lv' := [(0, .ref b_o), (1, .ref (ad 0)), (2, .ref (bd 25)), (3, .ref aO), (4, .ref aD), (5, .int (iI i_o))]) [2, 3, 4, 5, 6, 7] rfl ?_
          refine k_wd (k2 := k_o + 7) (n2 := n_o + 630) (by omega) (by omega) ?_
          exact kk _ ⟨_, bd, _, _, _, _, _, _, _, _, _, _, _, _, _, rfl, rfl, ((hexM 17 (by show ¬ (19 ≤ 17 ∧ 17 ≤ 44); omega)).trans hO1), ((hexM 18 (by show ¬ (19 ≤ 18 ∧ 18 ≤ 44); omega)).trans ((hexP 18 (by show ¬ (18 ≤ 17 ∨ 100 ≤ 18); omega)).trans hD)), (hsu1.ox (hexM.sub kMk_Ox)), hmu2⟩
        · exfalso; omega
    · exfalso; (first | omega | exact absurd q1 e1 | exact absurd e1 q1 | exact absurd q1.1 e1 | exact absurd e1 q1.1 | exact absurd e1.1 q1 | exact absurd q1 e1.1 | exact absurd e1.1 q1.1 | exact absurd q1.1 e1.1)
  · have hmu1 := hmu.pl (hexP.sub kP7_Pw)
    obtain ⟨fs19P, h19P⟩ := hmu1.obj
    refine k_istore (lv' := [(6, .int (iI 1)), (0, .ref b_o), (1, .ref (ad 0)), (2, .ref (bd 25)), (3, .ref aO), (4, .ref aD), (5, .int (iI i_o))]) h_o dL_law_758 (by decide) rfl ?_
    refine k_aload_n h_o 3 dL_law_760 rfl rfl ?_
    refine k_aload_n h_o 1 dL_law_761 rfl rfl ?_
    refine k_iload h_o 6 dL_law_762 rfl ?_
    refine k_iconst h_o dL_law_764 ?_
    refine k_iadd h_o dL_law_765 ?_
    refine k_sld h_o hsr (x' := x1) (by omega) (by omega) hx1 dL_law_766 ?_
    refine k_aload_n h_o 1 dL_law_767 rfl rfl ?_
    refine k_iload h_o 6 dL_law_768 rfl ?_
    refine k_iconst h_o dL_law_770 ?_
    refine k_iadd h_o dL_law_771 ?_
    refine k_sld h_o hsr (x' := x2) (by omega) (by omega) hx2 dL_law_772 ?_
    refine k_callV (As := [.int (iI x1), .int (iI x2)]) (rest := []) h_o mX7_letterAt kq_5_63 (c_X7_letterAt hl0 hmu1 hr1 hr2) 19 h19P rfl rfl rfl (Nat.le_of_ble_eq_true rfl) ⟨rfl, rfl, ⟨(Nat.le_of_ble_eq_true rfl), (Nat.le_of_ble_eq_true rfl)⟩, ⟨by show _ ≤ 603072; omega, by show _ ≤ 7215210; omega⟩⟩ dL_law_773 (kcI fun zM w2_o hp => ?_)
    rcases hp with ⟨q1, rfl, hmu2, hexM⟩ | ⟨q1, hmu2, hexM⟩
    · exfalso; (first | omega | exact absurd q1 e1 | exact absurd e1 q1 | exact absurd q1.1 e1 | exact absurd e1 q1.1 | exact absurd e1.1 q1 | exact absurd q1 e1.1 | exact absurd e1.1 q1.1 | exact absurd q1.1 e1.1)
    · obtain ⟨fs19M, h19M⟩ := hmu2.obj
      refine k_istore (lv' := [(7, .int (iI zM)), (6, .int (iI 1)), (0, .ref b_o), (1, .ref (ad 0)), (2, .ref (bd 25)), (3, .ref aO), (4, .ref aD), (5, .int (iI i_o))]) h_o dL_law_776 (by decide) rfl ?_
      refine k_aload_n h_o 4 dL_law_778 rfl rfl ?_
      refine k_callV (As := []) (rest := []) h_o mX7_thrown kq_4_203 (c_X7_thrown hl0 hmu2) 19 h19M rfl rfl rfl (Nat.le_of_ble_eq_true rfl) ⟨rfl, rfl, ⟨(Nat.le_of_ble_eq_true rfl), (Nat.le_of_ble_eq_true rfl)⟩, ⟨by show _ ≤ 603072; omega, by show _ ≤ 7215210; omega⟩⟩ dL_law_779 (kcI fun z779_o w3_o hp => ?_)
      obtain ⟨rfl, rfl⟩ := hp
      refine k_iload h_o 1 dL_law_782 rfl ?_
      refine k_icmpS h_o 789 dL_law_784 (by decide) ?_
      refine k_iload h_o 1 dL_law_789 rfl ?_
      refine k_ifne h_o 806 (by decide) dL_law_791 (by decide) (fun h791_o => ?_) (fun h791_o => ?_)
      · refine k_goto h_o 1847 dL_law_806 (by decide) ?_
        refine k_sub (lv' := [(0, .ref b_o), (1, .ref (ad 0)), (2, .ref (bd 25)), (3, .ref aO), (4, .ref aD), (5, .int (iI i_o))]) [2, 3, 4, 5, 6, 7] rfl ?_
        refine k_wd (k2 := k_o + 7) (n2 := n_o + 630) (by omega) (by omega) ?_
        exact kk _ ⟨_, bd, _, _, _, _, _, _, _, _, _, _, _, _, _, rfl, rfl, ((hexM 17 (by show ¬ (19 ≤ 17 ∧ 17 ≤ 44); omega)).trans hO1), ((hexM 18 (by show ¬ (19 ≤ 18 ∧ 18 ≤ 44); omega)).trans ((hexP 18 (by show ¬ (18 ≤ 17 ∨ 100 ≤ 18); omega)).trans hD)), (hsu1.ox (hexM.sub kMk_Ox)), hmu2⟩
      · exfalso; omega

set_option maxHeartbeats 4000000 in
set_option maxRecDepth 100000 in
theorem law_trees {E_o : kE} {X_o : kX} {k_o n_o b_o L_o : Nat} {xs : Nat → Int32} (hl0 : (kXl X_o).stackTraces = false) (h_o : kOk E_o X_o code RL 9 room_1) (hNc : kNc (kXs X_o)) (hsr : kSr E_o X_o b_o L_o xs) (hL : L_o ≤ 2560) {i_o : Int} (hi_o : 0 ≤ i_o ∧ i_o + 5 ≤ (L_o : Int)) (hk : k_o + 7 ≤ 603072) (hn : n_o + 630 ≤ 7215210) {w_o : kW} {ad : Nat → Nat} {nr : Nat} {g_o : Nat → Nat → Int} {T_o : Nat} {lts : Nat → Nat → Int} {cs : Nat → Int} {acs : Nat → Nat → Int} {ams : Nat → Int} {rel fnd : Int} {Ns : Nat → Nat → Nat} {bd : Nat → Nat} {th : Int} {aO aD : Nat} {fO : Nat → Int} {fD : Nat → UInt64} (hO : w_o 17 = some (aO, al 1 fO)) (hD : w_o 18 = some (aD, kDl 1 fD)) (hst : kSu w_o ad nr g_o T_o lts cs acs ams rel fnd Ns) (hmu : kMu w_o bd nr g_o T_o lts cs acs ams rel fnd th) (kk : ∀ w2_o : kW, kLI w2_o (ad 0) (bd 25) aO aD → kG E_o X_o 9 (k_o + 7) (n_o + 630) w2_o 1847 [(0, .ref b_o), (1, .ref (ad 0)), (2, .ref (bd 25)), (3, .ref aO), (4, .ref aD), (5, .int (iI i_o))] []) : kG E_o X_o 9 k_o n_o w_o 809 [(0, .ref b_o), (1, .ref (ad 0)), (2, .ref (bd 25)), (3, .ref aO), (4, .ref aD), (5, .int (iI i_o))] [] := by
  obtain ⟨x1, hx1⟩ : ∃ z_o, z_o = (xs (i_o + 1).toNat).toInt := ⟨_, rfl⟩
  have hr1 : -2147483648 ≤ x1 ∧ x1 < 2147483648 := by rw [hx1]; exact iI_rg _
  obtain ⟨x2, hx2⟩ : ∃ z_o, z_o = (xs (i_o + 2).toNat).toInt := ⟨_, rfl⟩
  have hr2 : -2147483648 ≤ x2 ∧ x2 < 2147483648 := by rw [hx2]; exact iI_rg _
  obtain ⟨x3, hx3⟩ : ∃ z_o, z_o = (xs (i_o + 3).toNat).toInt := ⟨_, rfl⟩
  have hr3 : -2147483648 ≤ x3 ∧ x3 < 2147483648 := by rw [hx3]; exact iI_rg _
  obtain ⟨x4, hx4⟩ : ∃ z_o, z_o = (xs (i_o + 4).toNat).toInt := ⟨_, rfl⟩
  have hr4 : -2147483648 ≤ x4 ∧ x4 < 2147483648 := by rw [hx4]; exact iI_rg _
  obtain ⟨fs19, h19_o⟩ := hmu.obj
  refine k_aload_n h_o 1 dL_law_809 rfl rfl ?_
  refine k_aload_n h_o 0 dL_law_810 rfl rfl ?_
  refine k_iload h_o 5 dL_law_811 rfl ?_
  refine k_iconst h_o dL_law_813 ?_
  refine k_iadd h_o dL_law_814 ?_
  refine k_sld h_o hsr (x' := x1) (by omega) (by omega) hx1 dL_law_815 ?_
  refine k_aload_n h_o 3 dL_law_816 rfl rfl ?_
  refine k_callSWN (As := [.ref (ad 0), .int (iI x1), .ref aO]) (rest := []) h_o hNc mL_trees kq_3_155 (c_L_trees hl0 hst hr1 hO) rfl rfl (Nat.le_of_ble_eq_true rfl) ⟨rfl, rfl, ⟨(Nat.le_of_ble_eq_true rfl), (Nat.le_of_ble_eq_true rfl)⟩, ⟨by show _ ≤ 603072; omega, by show _ ≤ 7215210; omega⟩⟩ dL_law_817 (kcI fun zH w1_o hp => ?_)
  rcases hp with ⟨rfl, z1_o, rfl, e1, hO1, hexP, hsu1⟩ | ⟨rfl, e1, hO1, hexP, hsu1⟩
  · have hmu1 := hmu.pl (hexP.sub kP7_Pw)
    obtain ⟨fs19P, h19P⟩ := hmu1.obj
    refine k_istore (lv' := [(6, .int (iI 0)), (0, .ref b_o), (1, .ref (ad 0)), (2, .ref (bd 25)), (3, .ref aO), (4, .ref aD), (5, .int (iI i_o))]) h_o dL_law_820 (by decide) rfl ?_
    refine k_aload_n h_o 3 dL_law_822 rfl rfl ?_
    refine k_aload_n h_o 1 dL_law_823 rfl rfl ?_
    refine k_iload h_o 6 dL_law_824 rfl ?_
    refine k_iconst h_o dL_law_826 ?_
    refine k_iadd h_o dL_law_827 ?_
    refine k_sld h_o hsr (x' := x1) (by omega) (by omega) hx1 dL_law_828 ?_
    refine k_callV (As := [.int (iI x1)]) (rest := []) h_o mX7_trees kq_5_67 (c_X7_trees hl0 hmu1 hr1) 19 h19P rfl rfl rfl (Nat.le_of_ble_eq_true rfl) ⟨rfl, rfl, ⟨(Nat.le_of_ble_eq_true rfl), (Nat.le_of_ble_eq_true rfl)⟩, ⟨by show _ ≤ 603072; omega, by show _ ≤ 7215210; omega⟩⟩ dL_law_829 (kcI fun zM w2_o hp => ?_)
    rcases hp with ⟨q1, rfl, hmu2, hexM⟩ | ⟨q1, hmu2, hexM⟩
    · obtain ⟨fs19M, h19M⟩ := hmu2.obj
      refine k_istore (lv' := [(7, .int (iI ((m_TT g_o nr (lts x1.toNat) 10 0 (cs x1.toNat - 1) : Nat) : Int))), (6, .int (iI 0)), (0, .ref b_o), (1, .ref (ad 0)), (2, .ref (bd 25)), (3, .ref aO), (4, .ref aD), (5, .int (iI i_o))]) h_o dL_law_832 (by decide) rfl ?_
      refine k_aload_n h_o 4 dL_law_834 rfl rfl ?_
      refine k_callV (As := []) (rest := []) h_o mX7_thrown kq_4_203 (c_X7_thrown hl0 hmu2) 19 h19M rfl rfl rfl (Nat.le_of_ble_eq_true rfl) ⟨rfl, rfl, ⟨(Nat.le_of_ble_eq_true rfl), (Nat.le_of_ble_eq_true rfl)⟩, ⟨by show _ ≤ 603072; omega, by show _ ≤ 7215210; omega⟩⟩ dL_law_835 (kcI fun z835_o w3_o hp => ?_)
      obtain ⟨rfl, rfl⟩ := hp
      refine k_iload h_o 1 dL_law_838 rfl ?_
      refine k_icmpS h_o 845 dL_law_840 (by decide) ?_
      refine k_iload h_o 1 dL_law_845 rfl ?_
      refine k_ifne h_o 862 (by decide) dL_law_847 (by decide) (fun h847_o => ?_) (fun h847_o => ?_)
      · exfalso; omega
      · refine k_aload_n h_o 5 dL_law_850 rfl rfl ?_
        refine k_iconst h_o dL_law_851 ?_
        refine k_lald h_o 17 ((hexM 17 (by show ¬ (19 ≤ 17 ∧ 17 ≤ 44); omega)).trans hO1) (by decide) (by decide) dL_law_852 ?_
        refine k_topL (z' := m_w ((m_TT g_o nr (lts x1.toNat) 10 0 (cs x1.toNat - 1) : Nat) : Int)) kup_eq ?_
        refine k_iload h_o 0 dL_law_853 rfl ?_
        refine k_i2lW h_o dL_law_855 ?_
        refine k_lcmpS h_o dL_law_856 ?_
        refine k_ifeq h_o 862 (by decide) dL_law_857 (by decide) (fun h857_o => ?_) (fun h857_o => ?_)
        · refine k_goto h_o 1847 dL_law_862 (by decide) ?_
          refine k_sub (lv' := [(0, .ref b_o), (1, .ref (ad 0)), (2, .ref (bd 25)), (3, .ref aO), (4, .ref aD), (5, .int (iI i_o))]) [2, 3, 4, 5, 6, 7] rfl ?_
          refine k_wd (k2 := k_o + 7) (n2 := n_o + 630) (by omega) (by omega) ?_
          exact kk _ ⟨_, bd, _, _, _, _, _, _, _, _, _, _, _, _, _, rfl, rfl, ((hexM 17 (by show ¬ (19 ≤ 17 ∧ 17 ≤ 44); omega)).trans hO1), ((hexM 18 (by show ¬ (19 ≤ 18 ∧ 18 ≤ 44); omega)).trans ((hexP 18 (by show ¬ (18 ≤ 17 ∨ 100 ≤ 18); omega)).trans hD)), (hsu1.ox (hexM.sub kMk_Ox)), hmu2⟩
        · exfalso; omega
    · exfalso; (first | omega | exact absurd q1 e1 | exact absurd e1 q1 | exact absurd q1.1 e1 | exact absurd e1 q1.1 | exact absurd e1.1 q1 | exact absurd q1 e1.1 | exact absurd e1.1 q1.1 | exact absurd q1.1 e1.1)
  · have hmu1 := hmu.pl (hexP.sub kP7_Pw)
    obtain ⟨fs19P, h19P⟩ := hmu1.obj
    refine k_istore (lv' := [(6, .int (iI 1)), (0, .ref b_o), (1, .ref (ad 0)), (2, .ref (bd 25)), (3, .ref aO), (4, .ref aD), (5, .int (iI i_o))]) h_o dL_law_820 (by decide) rfl ?_
    refine k_aload_n h_o 3 dL_law_822 rfl rfl ?_
    refine k_aload_n h_o 1 dL_law_823 rfl rfl ?_
    refine k_iload h_o 6 dL_law_824 rfl ?_
    refine k_iconst h_o dL_law_826 ?_
    refine k_iadd h_o dL_law_827 ?_
    refine k_sld h_o hsr (x' := x1) (by omega) (by omega) hx1 dL_law_828 ?_
    refine k_callV (As := [.int (iI x1)]) (rest := []) h_o mX7_trees kq_5_67 (c_X7_trees hl0 hmu1 hr1) 19 h19P rfl rfl rfl (Nat.le_of_ble_eq_true rfl) ⟨rfl, rfl, ⟨(Nat.le_of_ble_eq_true rfl), (Nat.le_of_ble_eq_true rfl)⟩, ⟨by show _ ≤ 603072; omega, by show _ ≤ 7215210; omega⟩⟩ dL_law_829 (kcI fun zM w2_o hp => ?_)
    rcases hp with ⟨q1, rfl, hmu2, hexM⟩ | ⟨q1, hmu2, hexM⟩
    · exfalso; (first | omega | exact absurd q1 e1 | exact absurd e1 q1 | exact absurd q1.1 e1 | exact absurd e1 q1.1 | exact absurd e1.1 q1 | exact absurd q1 e1.1 | exact absurd e1.1 q1.1 | exact absurd q1.1 e1.1)
    · obtain ⟨fs19M, h19M⟩ := hmu2.obj
      refine k_istore (lv' := [(7, .int (iI zM)), (6, .int (iI 1)), (0, .ref b_o), (1, .ref (ad 0)), (2, .ref (bd 25)), (3, .ref aO), (4, .ref aD), (5, .int (iI i_o))]) h_o dL_law_832 (by decide) rfl ?_
      refine k_aload_n h_o 4 dL_law_834 rfl rfl ?_
      refine k_callV (As := []) (rest := []) h_o mX7_thrown kq_4_203 (c_X7_thrown hl0 hmu2) 19 h19M rfl rfl rfl (Nat.le_of_ble_eq_true rfl) ⟨rfl, rfl, ⟨(Nat.le_of_ble_eq_true rfl), (Nat.le_of_ble_eq_true rfl)⟩, ⟨by show _ ≤ 603072; omega, by show _ ≤ 7215210; omega⟩⟩ dL_law_835 (kcI fun z835_o w3_o hp => ?_)
      obtain ⟨rfl, rfl⟩ := hp
      refine k_iload h_o 1 dL_law_838 rfl ?_
      refine k_icmpS h_o 845 dL_law_840 (by decide) ?_
      refine k_iload h_o 1 dL_law_845 rfl ?_
      refine k_ifne h_o 862 (by decide) dL_law_847 (by decide) (fun h847_o => ?_) (fun h847_o => ?_)
      · refine k_goto h_o 1847 dL_law_862 (by decide) ?_
        refine k_sub (lv' := [(0, .ref b_o), (1, .ref (ad 0)), (2, .ref (bd 25)), (3, .ref aO), (4, .ref aD), (5, .int (iI i_o))]) [2, 3, 4, 5, 6, 7] rfl ?_
        refine k_wd (k2 := k_o + 7) (n2 := n_o + 630) (by omega) (by omega) ?_
        exact kk _ ⟨_, bd, _, _, _, _, _, _, _, _, _, _, _, _, _, rfl, rfl, ((hexM 17 (by show ¬ (19 ≤ 17 ∧ 17 ≤ 44); omega)).trans hO1), ((hexM 18 (by show ¬ (19 ≤ 18 ∧ 18 ≤ 44); omega)).trans ((hexP 18 (by show ¬ (18 ≤ 17 ∨ 100 ≤ 18); omega)).trans hD)), (hsu1.ox (hexM.sub kMk_Ox)), hmu2⟩
      · exfalso; omega

set_option maxHeartbeats 4000000 in
set_option maxRecDepth 100000 in
theorem law_treesByTrying {E_o : kE} {X_o : kX} {k_o n_o b_o L_o : Nat} {xs : Nat → Int32} (hl0 : (kXl X_o).stackTraces = false) (h_o : kOk E_o X_o code RL 9 room_1) (hNc : kNc (kXs X_o)) (hsr : kSr E_o X_o b_o L_o xs) (hL : L_o ≤ 2560) {i_o : Int} (hi_o : 0 ≤ i_o ∧ i_o + 5 ≤ (L_o : Int)) (hk : k_o + 7 ≤ 603072) (hn : n_o + 630 ≤ 7215210) {w_o : kW} {ad : Nat → Nat} {nr : Nat} {g_o : Nat → Nat → Int} {T_o : Nat} {lts : Nat → Nat → Int} {cs : Nat → Int} {acs : Nat → Nat → Int} {ams : Nat → Int} {rel fnd : Int} {Ns : Nat → Nat → Nat} {bd : Nat → Nat} {th : Int} {aO aD : Nat} {fO : Nat → Int} {fD : Nat → UInt64} (hO : w_o 17 = some (aO, al 1 fO)) (hD : w_o 18 = some (aD, kDl 1 fD)) (hst : kSu w_o ad nr g_o T_o lts cs acs ams rel fnd Ns) (hmu : kMu w_o bd nr g_o T_o lts cs acs ams rel fnd th) (kk : ∀ w2_o : kW, kLI w2_o (ad 0) (bd 25) aO aD → kG E_o X_o 9 (k_o + 7) (n_o + 630) w2_o 1847 [(0, .ref b_o), (1, .ref (ad 0)), (2, .ref (bd 25)), (3, .ref aO), (4, .ref aD), (5, .int (iI i_o))] []) : kG E_o X_o 9 k_o n_o w_o 865 [(0, .ref b_o), (1, .ref (ad 0)), (2, .ref (bd 25)), (3, .ref aO), (4, .ref aD), (5, .int (iI i_o))] [] := by
  obtain ⟨x1, hx1⟩ : ∃ z_o, z_o = (xs (i_o + 1).toNat).toInt := ⟨_, rfl⟩
  have hr1 : -2147483648 ≤ x1 ∧ x1 < 2147483648 := by rw [hx1]; exact iI_rg _
  obtain ⟨x2, hx2⟩ : ∃ z_o, z_o = (xs (i_o + 2).toNat).toInt := ⟨_, rfl⟩
  have hr2 : -2147483648 ≤ x2 ∧ x2 < 2147483648 := by rw [hx2]; exact iI_rg _
  obtain ⟨x3, hx3⟩ : ∃ z_o, z_o = (xs (i_o + 3).toNat).toInt := ⟨_, rfl⟩
  have hr3 : -2147483648 ≤ x3 ∧ x3 < 2147483648 := by rw [hx3]; exact iI_rg _
  obtain ⟨x4, hx4⟩ : ∃ z_o, z_o = (xs (i_o + 4).toNat).toInt := ⟨_, rfl⟩
  have hr4 : -2147483648 ≤ x4 ∧ x4 < 2147483648 := by rw [hx4]; exact iI_rg _
  obtain ⟨fs19, h19_o⟩ := hmu.obj
  refine k_aload_n h_o 1 dL_law_865 rfl rfl ?_
  refine k_aload_n h_o 0 dL_law_866 rfl rfl ?_
  refine k_iload h_o 5 dL_law_867 rfl ?_
  refine k_iconst h_o dL_law_869 ?_
  refine k_iadd h_o dL_law_870 ?_
  refine k_sld h_o hsr (x' := x1) (by omega) (by omega) hx1 dL_law_871 ?_
  refine k_aload_n h_o 3 dL_law_872 rfl rfl ?_
  refine k_callSWN (As := [.ref (ad 0), .int (iI x1), .ref aO]) (rest := []) h_o hNc mL_treesByTrying kq_3_162 (c_L_treesByTrying hl0 hst hr1 hO) rfl rfl (Nat.le_of_ble_eq_true rfl) ⟨rfl, rfl, ⟨(Nat.le_of_ble_eq_true rfl), (Nat.le_of_ble_eq_true rfl)⟩, ⟨by show _ ≤ 603072; omega, by show _ ≤ 7215210; omega⟩⟩ dL_law_873 (kcI fun zH w1_o hp => ?_)
  rcases hp with ⟨rfl, z1_o, rfl, e1, e2, hO1, hexP, hsu1⟩ | ⟨rfl, e1, hO1, hexP, hsu1⟩ | ⟨rfl, e1, hO1, hexP, hsu1⟩
  · have hmu1 := hmu.pl (hexP.sub kP7_Pw)
    obtain ⟨fs19P, h19P⟩ := hmu1.obj
    refine k_istore (lv' := [(6, .int (iI 0)), (0, .ref b_o), (1, .ref (ad 0)), (2, .ref (bd 25)), (3, .ref aO), (4, .ref aD), (5, .int (iI i_o))]) h_o dL_law_876 (by decide) rfl ?_
    refine k_aload_n h_o 3 dL_law_878 rfl rfl ?_
    refine k_aload_n h_o 1 dL_law_879 rfl rfl ?_
    refine k_iload h_o 6 dL_law_880 rfl ?_
    refine k_iconst h_o dL_law_882 ?_
    refine k_iadd h_o dL_law_883 ?_
    refine k_sld h_o hsr (x' := x1) (by omega) (by omega) hx1 dL_law_884 ?_
    refine k_callV (As := [.int (iI x1)]) (rest := []) h_o mX7_treesByTrying kq_5_71 (c_X7_treesByTrying hl0 hmu1 hr1) 19 h19P rfl rfl rfl (Nat.le_of_ble_eq_true rfl) ⟨rfl, rfl, ⟨(Nat.le_of_ble_eq_true rfl), (Nat.le_of_ble_eq_true rfl)⟩, ⟨by show _ ≤ 603072; omega, by show _ ≤ 7215210; omega⟩⟩ dL_law_885 (kcI fun zM w2_o hp => ?_)
    rcases hp with ⟨q1, rfl, hmu2, hexM⟩ | ⟨q1, hmu2, hexM⟩ | ⟨q1, hmu2, hexM⟩
    · obtain ⟨fs19M, h19M⟩ := hmu2.obj
      refine k_istore (lv' := [(7, .int (iI ((m_TT g_o nr (lts x1.toNat) 10 0 (cs x1.toNat - 1) : Nat) : Int))), (6, .int (iI 0)), (0, .ref b_o), (1, .ref (ad 0)), (2, .ref (bd 25)), (3, .ref aO), (4, .ref aD), (5, .int (iI i_o))]) h_o dL_law_888 (by decide) rfl ?_
      refine k_aload_n h_o 4 dL_law_890 rfl rfl ?_
      refine k_callV (As := []) (rest := []) h_o mX7_thrown kq_4_203 (c_X7_thrown hl0 hmu2) 19 h19M rfl rfl rfl (Nat.le_of_ble_eq_true rfl) ⟨rfl, rfl, ⟨(Nat.le_of_ble_eq_true rfl), (Nat.le_of_ble_eq_true rfl)⟩, ⟨by show _ ≤ 603072; omega, by show _ ≤ 7215210; omega⟩⟩ dL_law_891 (kcI fun z891_o w3_o hp => ?_)
      obtain ⟨rfl, rfl⟩ := hp
      refine k_iload h_o 1 dL_law_894 rfl ?_
      refine k_icmpS h_o 901 dL_law_896 (by decide) ?_
      refine k_iload h_o 1 dL_law_901 rfl ?_
      refine k_ifne h_o 918 (by decide) dL_law_903 (by decide) (fun h903_o => ?_) (fun h903_o => ?_)
      · exfalso; omega
      · refine k_aload_n h_o 5 dL_law_906 rfl rfl ?_
        refine k_iconst h_o dL_law_907 ?_
        refine k_lald h_o 17 ((hexM 17 (by show ¬ (19 ≤ 17 ∧ 17 ≤ 44); omega)).trans hO1) (by decide) (by decide) dL_law_908 ?_
        refine k_topL (z' := m_w ((m_TT g_o nr (lts x1.toNat) 10 0 (cs x1.toNat - 1) : Nat) : Int)) kup_eq ?_
        refine k_iload h_o 0 dL_law_909 rfl ?_
        refine k_i2lW h_o dL_law_911 ?_
        refine k_lcmpS h_o dL_law_912 ?_
        refine k_ifeq h_o 918 (by decide) dL_law_913 (by decide) (fun h913_o => ?_) (fun h913_o => ?_)
        · refine k_goto h_o 1847 dL_law_918 (by decide) ?_
          refine k_sub (lv' := [(0, .ref b_o), (1, .ref (ad 0)), (2, .ref (bd 25)), (3, .ref aO), (4, .ref aD), (5, .int (iI i_o))]) [2, 3, 4, 5, 6, 7] rfl ?_
          refine k_wd (k2 := k_o + 7) (n2 := n_o + 630) (by omega) (by omega) ?_
          exact kk _ ⟨_, bd, _, _, _, _, _, _, _, _, _, _, _, _, _, rfl, rfl, ((hexM 17 (by show ¬ (19 ≤ 17 ∧ 17 ≤ 44); omega)).trans hO1), ((hexM 18 (by show ¬ (19 ≤ 18 ∧ 18 ≤ 44); omega)).trans ((hexP 18 (by show ¬ (18 ≤ 17 ∨ 100 ≤ 18); omega)).trans hD)), (hsu1.ox (hexM.sub kMk_Ox)), hmu2⟩
        · exfalso; omega
    · exfalso; (first | omega | exact absurd q1 e1 | exact absurd e1 q1 | exact absurd q1.1 e1 | exact absurd e1 q1.1 | exact absurd e1.1 q1 | exact absurd q1 e1.1 | exact absurd e1.1 q1.1 | exact absurd q1.1 e1.1)
    · exfalso; (first | omega | exact absurd q1 e1 | exact absurd e1 q1 | exact absurd q1.1 e1 | exact absurd e1 q1.1 | exact absurd e1.1 q1 | exact absurd q1 e1.1 | exact absurd e1.1 q1.1 | exact absurd q1.1 e1.1)
  · have hmu1 := hmu.pl (hexP.sub kP7_Pw)
    obtain ⟨fs19P, h19P⟩ := hmu1.obj
    refine k_istore (lv' := [(6, .int (iI 1)), (0, .ref b_o), (1, .ref (ad 0)), (2, .ref (bd 25)), (3, .ref aO), (4, .ref aD), (5, .int (iI i_o))]) h_o dL_law_876 (by decide) rfl ?_
    refine k_aload_n h_o 3 dL_law_878 rfl rfl ?_
    refine k_aload_n h_o 1 dL_law_879 rfl rfl ?_
    refine k_iload h_o 6 dL_law_880 rfl ?_
    refine k_iconst h_o dL_law_882 ?_
    refine k_iadd h_o dL_law_883 ?_
    refine k_sld h_o hsr (x' := x1) (by omega) (by omega) hx1 dL_law_884 ?_
    refine k_callV (As := [.int (iI x1)]) (rest := []) h_o mX7_treesByTrying kq_5_71 (c_X7_treesByTrying hl0 hmu1 hr1) 19 h19P rfl rfl rfl (Nat.le_of_ble_eq_true rfl) ⟨rfl, rfl, ⟨(Nat.le_of_ble_eq_true rfl), (Nat.le_of_ble_eq_true rfl)⟩, ⟨by show _ ≤ 603072; omega, by show _ ≤ 7215210; omega⟩⟩ dL_law_885 (kcI fun zM w2_o hp => ?_)
    rcases hp with ⟨q1, rfl, hmu2, hexM⟩ | ⟨q1, hmu2, hexM⟩ | ⟨q1, hmu2, hexM⟩
    · exfalso; (first | omega | exact absurd q1 e1 | exact absurd e1 q1 | exact absurd q1.1 e1 | exact absurd e1 q1.1 | exact absurd e1.1 q1 | exact absurd q1 e1.1 | exact absurd e1.1 q1.1 | exact absurd q1.1 e1.1)
    · obtain ⟨fs19M, h19M⟩ := hmu2.obj
      refine k_istore (lv' := [(7, .int (iI zM)), (6, .int (iI 1)), (0, .ref b_o), (1, .ref (ad 0)), (2, .ref (bd 25)), (3, .ref aO), (4, .ref aD), (5, .int (iI i_o))]) h_o dL_law_888 (by decide) rfl ?_
      refine k_aload_n h_o 4 dL_law_890 rfl rfl ?_
      refine k_callV (As := []) (rest := []) h_o mX7_thrown kq_4_203 (c_X7_thrown hl0 hmu2) 19 h19M rfl rfl rfl (Nat.le_of_ble_eq_true rfl) ⟨rfl, rfl, ⟨(Nat.le_of_ble_eq_true rfl), (Nat.le_of_ble_eq_true rfl)⟩, ⟨by show _ ≤ 603072; omega, by show _ ≤ 7215210; omega⟩⟩ dL_law_891 (kcI fun z891_o w3_o hp => ?_)
      obtain ⟨rfl, rfl⟩ := hp
      refine k_iload h_o 1 dL_law_894 rfl ?_
      refine k_icmpS h_o 901 dL_law_896 (by decide) ?_
      refine k_iload h_o 1 dL_law_901 rfl ?_
      refine k_ifne h_o 918 (by decide) dL_law_903 (by decide) (fun h903_o => ?_) (fun h903_o => ?_)
      · refine k_goto h_o 1847 dL_law_918 (by decide) ?_
        refine k_sub (lv' := [(0, .ref b_o), (1, .ref (ad 0)), (2, .ref (bd 25)), (3, .ref aO), (4, .ref aD), (5, .int (iI i_o))]) [2, 3, 4, 5, 6, 7] rfl ?_
        refine k_wd (k2 := k_o + 7) (n2 := n_o + 630) (by omega) (by omega) ?_
        exact kk _ ⟨_, bd, _, _, _, _, _, _, _, _, _, _, _, _, _, rfl, rfl, ((hexM 17 (by show ¬ (19 ≤ 17 ∧ 17 ≤ 44); omega)).trans hO1), ((hexM 18 (by show ¬ (19 ≤ 18 ∧ 18 ≤ 44); omega)).trans ((hexP 18 (by show ¬ (18 ≤ 17 ∨ 100 ≤ 18); omega)).trans hD)), (hsu1.ox (hexM.sub kMk_Ox)), hmu2⟩
      · exfalso; omega
    · exfalso; (first | omega | exact absurd q1 e1 | exact absurd e1 q1 | exact absurd q1.1 e1 | exact absurd e1 q1.1 | exact absurd e1.1 q1 | exact absurd q1 e1.1 | exact absurd e1.1 q1.1 | exact absurd q1.1 e1.1)
  · have hmu1 := hmu.pl (hexP.sub kP7_Pw)
    obtain ⟨fs19P, h19P⟩ := hmu1.obj
    refine k_istore (lv' := [(6, .int (iI 2)), (0, .ref b_o), (1, .ref (ad 0)), (2, .ref (bd 25)), (3, .ref aO), (4, .ref aD), (5, .int (iI i_o))]) h_o dL_law_876 (by decide) rfl ?_
    refine k_aload_n h_o 3 dL_law_878 rfl rfl ?_
    refine k_aload_n h_o 1 dL_law_879 rfl rfl ?_
    refine k_iload h_o 6 dL_law_880 rfl ?_
    refine k_iconst h_o dL_law_882 ?_
    refine k_iadd h_o dL_law_883 ?_
    refine k_sld h_o hsr (x' := x1) (by omega) (by omega) hx1 dL_law_884 ?_
    refine k_callV (As := [.int (iI x1)]) (rest := []) h_o mX7_treesByTrying kq_5_71 (c_X7_treesByTrying hl0 hmu1 hr1) 19 h19P rfl rfl rfl (Nat.le_of_ble_eq_true rfl) ⟨rfl, rfl, ⟨(Nat.le_of_ble_eq_true rfl), (Nat.le_of_ble_eq_true rfl)⟩, ⟨by show _ ≤ 603072; omega, by show _ ≤ 7215210; omega⟩⟩ dL_law_885 (kcI fun zM w2_o hp => ?_)
    rcases hp with ⟨q1, rfl, hmu2, hexM⟩ | ⟨q1, hmu2, hexM⟩ | ⟨q1, hmu2, hexM⟩
    · exfalso; (first | omega | exact absurd q1 e1 | exact absurd e1 q1 | exact absurd q1.1 e1 | exact absurd e1 q1.1 | exact absurd e1.1 q1 | exact absurd q1 e1.1 | exact absurd e1.1 q1.1 | exact absurd q1.1 e1.1)
    · exfalso; (first | omega | exact absurd q1 e1 | exact absurd e1 q1 | exact absurd q1.1 e1 | exact absurd e1 q1.1 | exact absurd e1.1 q1 | exact absurd q1 e1.1 | exact absurd e1.1 q1.1 | exact absurd q1.1 e1.1)
    · obtain ⟨fs19M, h19M⟩ := hmu2.obj
      refine k_istore (lv' := [(7, .int (iI zM)), (6, .int (iI 2)), (0, .ref b_o), (1, .ref (ad 0)), (2, .ref (bd 25)), (3, .ref aO), (4, .ref aD), (5, .int (iI i_o))]) h_o dL_law_888 (by decide) rfl ?_
      refine k_aload_n h_o 4 dL_law_890 rfl rfl ?_
      refine k_callV (As := []) (rest := []) h_o mX7_thrown kq_4_203 (c_X7_thrown hl0 hmu2) 19 h19M rfl rfl rfl (Nat.le_of_ble_eq_true rfl) ⟨rfl, rfl, ⟨(Nat.le_of_ble_eq_true rfl), (Nat.le_of_ble_eq_true rfl)⟩, ⟨by show _ ≤ 603072; omega, by show _ ≤ 7215210; omega⟩⟩ dL_law_891 (kcI fun z891_o w3_o hp => ?_)
      obtain ⟨rfl, rfl⟩ := hp
      refine k_iload h_o 1 dL_law_894 rfl ?_
      refine k_icmpS h_o 901 dL_law_896 (by decide) ?_
      refine k_iload h_o 1 dL_law_901 rfl ?_
      refine k_ifne h_o 918 (by decide) dL_law_903 (by decide) (fun h903_o => ?_) (fun h903_o => ?_)
      · refine k_goto h_o 1847 dL_law_918 (by decide) ?_
        refine k_sub (lv' := [(0, .ref b_o), (1, .ref (ad 0)), (2, .ref (bd 25)), (3, .ref aO), (4, .ref aD), (5, .int (iI i_o))]) [2, 3, 4, 5, 6, 7] rfl ?_
        refine k_wd (k2 := k_o + 7) (n2 := n_o + 630) (by omega) (by omega) ?_
        exact kk _ ⟨_, bd, _, _, _, _, _, _, _, _, _, _, _, _, _, rfl, rfl, ((hexM 17 (by show ¬ (19 ≤ 17 ∧ 17 ≤ 44); omega)).trans hO1), ((hexM 18 (by show ¬ (19 ≤ 18 ∧ 18 ≤ 44); omega)).trans ((hexP 18 (by show ¬ (18 ≤ 17 ∨ 100 ≤ 18); omega)).trans hD)), (hsu1.ox (hexM.sub kMk_Ox)), hmu2⟩
      · exfalso; omega

set_option maxHeartbeats 4000000 in
set_option maxRecDepth 100000 in
theorem law_treesOver {E_o : kE} {X_o : kX} {k_o n_o b_o L_o : Nat} {xs : Nat → Int32} (hl0 : (kXl X_o).stackTraces = false) (h_o : kOk E_o X_o code RL 9 room_1) (hNc : kNc (kXs X_o)) (hsr : kSr E_o X_o b_o L_o xs) (hL : L_o ≤ 2560) {i_o : Int} (hi_o : 0 ≤ i_o ∧ i_o + 5 ≤ (L_o : Int)) (hk : k_o + 7 ≤ 603072) (hn : n_o + 630 ≤ 7215210) {w_o : kW} {ad : Nat → Nat} {nr : Nat} {g_o : Nat → Nat → Int} {T_o : Nat} {lts : Nat → Nat → Int} {cs : Nat → Int} {acs : Nat → Nat → Int} {ams : Nat → Int} {rel fnd : Int} {Ns : Nat → Nat → Nat} {bd : Nat → Nat} {th : Int} {aO aD : Nat} {fO : Nat → Int} {fD : Nat → UInt64} (hO : w_o 17 = some (aO, al 1 fO)) (hD : w_o 18 = some (aD, kDl 1 fD)) (hst : kSu w_o ad nr g_o T_o lts cs acs ams rel fnd Ns) (hmu : kMu w_o bd nr g_o T_o lts cs acs ams rel fnd th) (kk : ∀ w2_o : kW, kLI w2_o (ad 0) (bd 25) aO aD → kG E_o X_o 9 (k_o + 7) (n_o + 630) w2_o 1847 [(0, .ref b_o), (1, .ref (ad 0)), (2, .ref (bd 25)), (3, .ref aO), (4, .ref aD), (5, .int (iI i_o))] []) : kG E_o X_o 9 k_o n_o w_o 921 [(0, .ref b_o), (1, .ref (ad 0)), (2, .ref (bd 25)), (3, .ref aO), (4, .ref aD), (5, .int (iI i_o))] [] := by
  obtain ⟨x1, hx1⟩ : ∃ z_o, z_o = (xs (i_o + 1).toNat).toInt := ⟨_, rfl⟩
  have hr1 : -2147483648 ≤ x1 ∧ x1 < 2147483648 := by rw [hx1]; exact iI_rg _
  obtain ⟨x2, hx2⟩ : ∃ z_o, z_o = (xs (i_o + 2).toNat).toInt := ⟨_, rfl⟩
  have hr2 : -2147483648 ≤ x2 ∧ x2 < 2147483648 := by rw [hx2]; exact iI_rg _
  obtain ⟨x3, hx3⟩ : ∃ z_o, z_o = (xs (i_o + 3).toNat).toInt := ⟨_, rfl⟩
  have hr3 : -2147483648 ≤ x3 ∧ x3 < 2147483648 := by rw [hx3]; exact iI_rg _
  obtain ⟨x4, hx4⟩ : ∃ z_o, z_o = (xs (i_o + 4).toNat).toInt := ⟨_, rfl⟩
  have hr4 : -2147483648 ≤ x4 ∧ x4 < 2147483648 := by rw [hx4]; exact iI_rg _
  obtain ⟨fs19, h19_o⟩ := hmu.obj
  refine k_aload_n h_o 1 dL_law_921 rfl rfl ?_
  refine k_aload_n h_o 0 dL_law_922 rfl rfl ?_
  refine k_iload h_o 5 dL_law_923 rfl ?_
  refine k_iconst h_o dL_law_925 ?_
  refine k_iadd h_o dL_law_926 ?_
  refine k_sld h_o hsr (x' := x1) (by omega) (by omega) hx1 dL_law_927 ?_
  refine k_aload_n h_o 0 dL_law_928 rfl rfl ?_
  refine k_iload h_o 5 dL_law_929 rfl ?_
  refine k_iconst h_o dL_law_931 ?_
  refine k_iadd h_o dL_law_932 ?_
  refine k_sld h_o hsr (x' := x2) (by omega) (by omega) hx2 dL_law_933 ?_
  refine k_aload_n h_o 0 dL_law_934 rfl rfl ?_
  refine k_iload h_o 5 dL_law_935 rfl ?_
  refine k_iconst h_o dL_law_937 ?_
  refine k_iadd h_o dL_law_938 ?_
  refine k_sld h_o hsr (x' := x3) (by omega) (by omega) hx3 dL_law_939 ?_
  refine k_aload_n h_o 0 dL_law_940 rfl rfl ?_
  refine k_iload h_o 5 dL_law_941 rfl ?_
  refine k_iconst h_o dL_law_943 ?_
  refine k_iadd h_o dL_law_944 ?_
  refine k_sld h_o hsr (x' := x4) (by omega) (by omega) hx4 dL_law_945 ?_
  refine k_aload_n h_o 3 dL_law_946 rfl rfl ?_
  refine k_callSWN (As := [.ref (ad 0), .int (iI x1), .int (iI x2), .int (iI x3), .int (iI x4), .ref aO]) (rest := []) h_o hNc mL_treesOver kq_3_185 (c_L_treesOver hl0 hst hr1 hr2 hr3 hr4 hO) rfl rfl (Nat.le_of_ble_eq_true rfl) ⟨rfl, rfl, ⟨(Nat.le_of_ble_eq_true rfl), (Nat.le_of_ble_eq_true rfl)⟩, ⟨by show _ ≤ 603072; omega, by show _ ≤ 7215210; omega⟩⟩ dL_law_947 (kcI fun zH w1_o hp => ?_)
  rcases hp with ⟨rfl, z1_o, rfl, e1, e2, e3, hO1, hexP, hsu1⟩ | ⟨rfl, e1, hO1, hexP, hsu1⟩ | ⟨rfl, e1, hO1, hexP, hsu1⟩
  · have hmu1 := hmu.pl (hexP.sub kP7_Pw)
    obtain ⟨fs19P, h19P⟩ := hmu1.obj
    refine k_istore (lv' := [(6, .int (iI 0)), (0, .ref b_o), (1, .ref (ad 0)), (2, .ref (bd 25)), (3, .ref aO), (4, .ref aD), (5, .int (iI i_o))]) h_o dL_law_950 (by decide) rfl ?_
    refine k_aload_n h_o 3 dL_law_952 rfl rfl ?_
    refine k_aload_n h_o 1 dL_law_953 rfl rfl ?_
    refine k_iload h_o 6 dL_law_954 rfl ?_
    refine k_iconst h_o dL_law_956 ?_
    refine k_iadd h_o dL_law_957 ?_
    refine k_sld h_o hsr (x' := x1) (by omega) (by omega) hx1 dL_law_958 ?_
    refine k_aload_n h_o 1 dL_law_959 rfl rfl ?_
    refine k_iload h_o 6 dL_law_960 rfl ?_
    refine k_iconst h_o dL_law_962 ?_
    refine k_iadd h_o dL_law_963 ?_
    refine k_sld h_o hsr (x' := x2) (by omega) (by omega) hx2 dL_law_964 ?_
    refine k_aload_n h_o 1 dL_law_965 rfl rfl ?_
    refine k_iload h_o 6 dL_law_966 rfl ?_
    refine k_iconst h_o dL_law_968 ?_
    refine k_iadd h_o dL_law_969 ?_
    refine k_sld h_o hsr (x' := x3) (by omega) (by omega) hx3 dL_law_970 ?_
    refine k_aload_n h_o 1 dL_law_971 rfl rfl ?_
    refine k_iload h_o 6 dL_law_972 rfl ?_
    refine k_iconst h_o dL_law_974 ?_
    refine k_iadd h_o dL_law_975 ?_
    refine k_sld h_o hsr (x' := x4) (by omega) (by omega) hx4 dL_law_976 ?_
    refine k_callV (As := [.int (iI x1), .int (iI x2), .int (iI x3), .int (iI x4)]) (rest := []) h_o mX7_treesOver kq_5_75 (c_X7_treesOver hl0 hmu1 hr1 hr2 hr3 hr4) 19 h19P rfl rfl rfl (Nat.le_of_ble_eq_true rfl) ⟨rfl, rfl, ⟨(Nat.le_of_ble_eq_true rfl), (Nat.le_of_ble_eq_true rfl)⟩, ⟨by show _ ≤ 603072; omega, by show _ ≤ 7215210; omega⟩⟩ dL_law_977 (kcI fun zM w2_o hp => ?_)
    rcases hp with ⟨q1, rfl, hmu2, hexM⟩ | ⟨q1, hmu2, hexM⟩ | ⟨q1, hmu2, hexM⟩
    · obtain ⟨fs19M, h19M⟩ := hmu2.obj
      refine k_istore (lv' := [(7, .int (iI ((m_TT g_o nr (lts x1.toNat) x2 x3 x4 : Nat) : Int))), (6, .int (iI 0)), (0, .ref b_o), (1, .ref (ad 0)), (2, .ref (bd 25)), (3, .ref aO), (4, .ref aD), (5, .int (iI i_o))]) h_o dL_law_980 (by decide) rfl ?_
      refine k_aload_n h_o 4 dL_law_982 rfl rfl ?_
      refine k_callV (As := []) (rest := []) h_o mX7_thrown kq_4_203 (c_X7_thrown hl0 hmu2) 19 h19M rfl rfl rfl (Nat.le_of_ble_eq_true rfl) ⟨rfl, rfl, ⟨(Nat.le_of_ble_eq_true rfl), (Nat.le_of_ble_eq_true rfl)⟩, ⟨by show _ ≤ 603072; omega, by show _ ≤ 7215210; omega⟩⟩ dL_law_983 (kcI fun z983_o w3_o hp => ?_)
      obtain ⟨rfl, rfl⟩ := hp
      refine k_iload h_o 1 dL_law_986 rfl ?_
      refine k_icmpS h_o 993 dL_law_988 (by decide) ?_
      refine k_iload h_o 1 dL_law_993 rfl ?_
      refine k_ifne h_o 1010 (by decide) dL_law_995 (by decide) (fun h995_o => ?_) (fun h995_o => ?_)
      · exfalso; omega
      · refine k_aload_n h_o 5 dL_law_998 rfl rfl ?_
        refine k_iconst h_o dL_law_999 ?_
        refine k_lald h_o 17 ((hexM 17 (by show ¬ (19 ≤ 17 ∧ 17 ≤ 44); omega)).trans hO1) (by decide) (by decide) dL_law_1000 ?_
        refine k_topL (z' := m_w ((m_TT g_o nr (lts x1.toNat) x2 x3 x4 : Nat) : Int)) kup_eq ?_
        refine k_iload h_o 0 dL_law_1001 rfl ?_
        refine k_i2lW h_o dL_law_1003 ?_
        refine k_lcmpS h_o dL_law_1004 ?_
        refine k_ifeq h_o 1010 (by decide) dL_law_1005 (by decide) (fun h1005_o => ?_) (fun h1005_o => ?_)
        · refine k_goto h_o 1847 dL_law_1010 (by decide) ?_
          refine k_sub (lv' := [(0, .ref b_o), (1, .ref (ad 0)), (2, .ref (bd 25)), (3, .ref aO), (4, .ref aD), (5, .int (iI i_o))]) [2, 3, 4, 5, 6, 7] rfl ?_
          refine k_wd (k2 := k_o + 7) (n2 := n_o + 630) (by omega) (by omega) ?_
          exact kk _ ⟨_, bd, _, _, _, _, _, _, _, _, _, _, _, _, _, rfl, rfl, ((hexM 17 (by show ¬ (19 ≤ 17 ∧ 17 ≤ 44); omega)).trans hO1), ((hexM 18 (by show ¬ (19 ≤ 18 ∧ 18 ≤ 44); omega)).trans ((hexP 18 (by show ¬ (18 ≤ 17 ∨ 100 ≤ 18); omega)).trans hD)), (hsu1.ox (hexM.sub kMk_Ox)), hmu2⟩
        · exfalso; omega
    · exfalso; (first | omega | exact absurd q1 e1 | exact absurd e1 q1 | exact absurd q1.1 e1 | exact absurd e1 q1.1 | exact absurd e1.1 q1 | exact absurd q1 e1.1 | exact absurd e1.1 q1.1 | exact absurd q1.1 e1.1)
    · exfalso; (first | omega | exact absurd q1 e1 | exact absurd e1 q1 | exact absurd q1.1 e1 | exact absurd e1 q1.1 | exact absurd e1.1 q1 | exact absurd q1 e1.1 | exact absurd e1.1 q1.1 | exact absurd q1.1 e1.1)
  · have hmu1 := hmu.pl (hexP.sub kP7_Pw)
    obtain ⟨fs19P, h19P⟩ := hmu1.obj
    refine k_istore (lv' := [(6, .int (iI 1)), (0, .ref b_o), (1, .ref (ad 0)), (2, .ref (bd 25)), (3, .ref aO), (4, .ref aD), (5, .int (iI i_o))]) h_o dL_law_950 (by decide) rfl ?_
    refine k_aload_n h_o 3 dL_law_952 rfl rfl ?_
    refine k_aload_n h_o 1 dL_law_953 rfl rfl ?_
    refine k_iload h_o 6 dL_law_954 rfl ?_
    refine k_iconst h_o dL_law_956 ?_
    refine k_iadd h_o dL_law_957 ?_
    refine k_sld h_o hsr (x' := x1) (by omega) (by omega) hx1 dL_law_958 ?_
    refine k_aload_n h_o 1 dL_law_959 rfl rfl ?_
    refine k_iload h_o 6 dL_law_960 rfl ?_
    refine k_iconst h_o dL_law_962 ?_
    refine k_iadd h_o dL_law_963 ?_
    refine k_sld h_o hsr (x' := x2) (by omega) (by omega) hx2 dL_law_964 ?_
    refine k_aload_n h_o 1 dL_law_965 rfl rfl ?_
    refine k_iload h_o 6 dL_law_966 rfl ?_
    refine k_iconst h_o dL_law_968 ?_
    refine k_iadd h_o dL_law_969 ?_
    refine k_sld h_o hsr (x' := x3) (by omega) (by omega) hx3 dL_law_970 ?_
    refine k_aload_n h_o 1 dL_law_971 rfl rfl ?_
    refine k_iload h_o 6 dL_law_972 rfl ?_
    refine k_iconst h_o dL_law_974 ?_
    refine k_iadd h_o dL_law_975 ?_
    refine k_sld h_o hsr (x' := x4) (by omega) (by omega) hx4 dL_law_976 ?_
    refine k_callV (As := [.int (iI x1), .int (iI x2), .int (iI x3), .int (iI x4)]) (rest := []) h_o mX7_treesOver kq_5_75 (c_X7_treesOver hl0 hmu1 hr1 hr2 hr3 hr4) 19 h19P rfl rfl rfl (Nat.le_of_ble_eq_true rfl) ⟨rfl, rfl, ⟨(Nat.le_of_ble_eq_true rfl), (Nat.le_of_ble_eq_true rfl)⟩, ⟨by show _ ≤ 603072; omega, by show _ ≤ 7215210; omega⟩⟩ dL_law_977 (kcI fun zM w2_o hp => ?_)
    rcases hp with ⟨q1, rfl, hmu2, hexM⟩ | ⟨q1, hmu2, hexM⟩ | ⟨q1, hmu2, hexM⟩
    · exfalso; (first | omega | exact absurd q1 e1 | exact absurd e1 q1 | exact absurd q1.1 e1 | exact absurd e1 q1.1 | exact absurd e1.1 q1 | exact absurd q1 e1.1 | exact absurd e1.1 q1.1 | exact absurd q1.1 e1.1)
    · obtain ⟨fs19M, h19M⟩ := hmu2.obj
      refine k_istore (lv' := [(7, .int (iI zM)), (6, .int (iI 1)), (0, .ref b_o), (1, .ref (ad 0)), (2, .ref (bd 25)), (3, .ref aO), (4, .ref aD), (5, .int (iI i_o))]) h_o dL_law_980 (by decide) rfl ?_
      refine k_aload_n h_o 4 dL_law_982 rfl rfl ?_
      refine k_callV (As := []) (rest := []) h_o mX7_thrown kq_4_203 (c_X7_thrown hl0 hmu2) 19 h19M rfl rfl rfl (Nat.le_of_ble_eq_true rfl) ⟨rfl, rfl, ⟨(Nat.le_of_ble_eq_true rfl), (Nat.le_of_ble_eq_true rfl)⟩, ⟨by show _ ≤ 603072; omega, by show _ ≤ 7215210; omega⟩⟩ dL_law_983 (kcI fun z983_o w3_o hp => ?_)
      obtain ⟨rfl, rfl⟩ := hp
      refine k_iload h_o 1 dL_law_986 rfl ?_
      refine k_icmpS h_o 993 dL_law_988 (by decide) ?_
      refine k_iload h_o 1 dL_law_993 rfl ?_
      refine k_ifne h_o 1010 (by decide) dL_law_995 (by decide) (fun h995_o => ?_) (fun h995_o => ?_)
      · refine k_goto h_o 1847 dL_law_1010 (by decide) ?_
        refine k_sub (lv' := [(0, .ref b_o), (1, .ref (ad 0)), (2, .ref (bd 25)), (3, .ref aO), (4, .ref aD), (5, .int (iI i_o))]) [2, 3, 4, 5, 6, 7] rfl ?_
        refine k_wd (k2 := k_o + 7) (n2 := n_o + 630) (by omega) (by omega) ?_
        exact kk _ ⟨_, bd, _, _, _, _, _, _, _, _, _, _, _, _, _, rfl, rfl, ((hexM 17 (by show ¬ (19 ≤ 17 ∧ 17 ≤ 44); omega)).trans hO1), ((hexM 18 (by show ¬ (19 ≤ 18 ∧ 18 ≤ 44); omega)).trans ((hexP 18 (by show ¬ (18 ≤ 17 ∨ 100 ≤ 18); omega)).trans hD)), (hsu1.ox (hexM.sub kMk_Ox)), hmu2⟩
      · exfalso; omega
    · exfalso; (first | omega | exact absurd q1 e1 | exact absurd e1 q1 | exact absurd q1.1 e1 | exact absurd e1 q1.1 | exact absurd e1.1 q1 | exact absurd q1 e1.1 | exact absurd e1.1 q1.1 | exact absurd q1.1 e1.1)
  · have hmu1 := hmu.pl (hexP.sub kP7_Pw)
    obtain ⟨fs19P, h19P⟩ := hmu1.obj
    refine k_istore (lv' := [(6, .int (iI 2)), (0, .ref b_o), (1, .ref (ad 0)), (2, .ref (bd 25)), (3, .ref aO), (4, .ref aD), (5, .int (iI i_o))]) h_o dL_law_950 (by decide) rfl ?_
    refine k_aload_n h_o 3 dL_law_952 rfl rfl ?_
    refine k_aload_n h_o 1 dL_law_953 rfl rfl ?_
    refine k_iload h_o 6 dL_law_954 rfl ?_
    refine k_iconst h_o dL_law_956 ?_
    refine k_iadd h_o dL_law_957 ?_
    refine k_sld h_o hsr (x' := x1) (by omega) (by omega) hx1 dL_law_958 ?_
    refine k_aload_n h_o 1 dL_law_959 rfl rfl ?_
    refine k_iload h_o 6 dL_law_960 rfl ?_
    refine k_iconst h_o dL_law_962 ?_
    refine k_iadd h_o dL_law_963 ?_
    refine k_sld h_o hsr (x' := x2) (by omega) (by omega) hx2 dL_law_964 ?_
    refine k_aload_n h_o 1 dL_law_965 rfl rfl ?_
    refine k_iload h_o 6 dL_law_966 rfl ?_
    refine k_iconst h_o dL_law_968 ?_
    refine k_iadd h_o dL_law_969 ?_
    refine k_sld h_o hsr (x' := x3) (by omega) (by omega) hx3 dL_law_970 ?_
    refine k_aload_n h_o 1 dL_law_971 rfl rfl ?_
    refine k_iload h_o 6 dL_law_972 rfl ?_
    refine k_iconst h_o dL_law_974 ?_
    refine k_iadd h_o dL_law_975 ?_
    refine k_sld h_o hsr (x' := x4) (by omega) (by omega) hx4 dL_law_976 ?_
    refine k_callV (As := [.int (iI x1), .int (iI x2), .int (iI x3), .int (iI x4)]) (rest := []) h_o mX7_treesOver kq_5_75 (c_X7_treesOver hl0 hmu1 hr1 hr2 hr3 hr4) 19 h19P rfl rfl rfl (Nat.le_of_ble_eq_true rfl) ⟨rfl, rfl, ⟨(Nat.le_of_ble_eq_true rfl), (Nat.le_of_ble_eq_true rfl)⟩, ⟨by show _ ≤ 603072; omega, by show _ ≤ 7215210; omega⟩⟩ dL_law_977 (kcI fun zM w2_o hp => ?_)
    rcases hp with ⟨q1, rfl, hmu2, hexM⟩ | ⟨q1, hmu2, hexM⟩ | ⟨q1, hmu2, hexM⟩
    · exfalso; (first | omega | exact absurd q1 e1 | exact absurd e1 q1 | exact absurd q1.1 e1 | exact absurd e1 q1.1 | exact absurd e1.1 q1 | exact absurd q1 e1.1 | exact absurd e1.1 q1.1 | exact absurd q1.1 e1.1)
    · exfalso; (first | omega | exact absurd q1 e1 | exact absurd e1 q1 | exact absurd q1.1 e1 | exact absurd e1 q1.1 | exact absurd e1.1 q1 | exact absurd q1 e1.1 | exact absurd e1.1 q1.1 | exact absurd q1.1 e1.1)
    · obtain ⟨fs19M, h19M⟩ := hmu2.obj
      refine k_istore (lv' := [(7, .int (iI zM)), (6, .int (iI 2)), (0, .ref b_o), (1, .ref (ad 0)), (2, .ref (bd 25)), (3, .ref aO), (4, .ref aD), (5, .int (iI i_o))]) h_o dL_law_980 (by decide) rfl ?_
      refine k_aload_n h_o 4 dL_law_982 rfl rfl ?_
      refine k_callV (As := []) (rest := []) h_o mX7_thrown kq_4_203 (c_X7_thrown hl0 hmu2) 19 h19M rfl rfl rfl (Nat.le_of_ble_eq_true rfl) ⟨rfl, rfl, ⟨(Nat.le_of_ble_eq_true rfl), (Nat.le_of_ble_eq_true rfl)⟩, ⟨by show _ ≤ 603072; omega, by show _ ≤ 7215210; omega⟩⟩ dL_law_983 (kcI fun z983_o w3_o hp => ?_)
      obtain ⟨rfl, rfl⟩ := hp
      refine k_iload h_o 1 dL_law_986 rfl ?_
      refine k_icmpS h_o 993 dL_law_988 (by decide) ?_
      refine k_iload h_o 1 dL_law_993 rfl ?_
      refine k_ifne h_o 1010 (by decide) dL_law_995 (by decide) (fun h995_o => ?_) (fun h995_o => ?_)
      · refine k_goto h_o 1847 dL_law_1010 (by decide) ?_
        refine k_sub (lv' := [(0, .ref b_o), (1, .ref (ad 0)), (2, .ref (bd 25)), (3, .ref aO), (4, .ref aD), (5, .int (iI i_o))]) [2, 3, 4, 5, 6, 7] rfl ?_
        refine k_wd (k2 := k_o + 7) (n2 := n_o + 630) (by omega) (by omega) ?_
        exact kk _ ⟨_, bd, _, _, _, _, _, _, _, _, _, _, _, _, _, rfl, rfl, ((hexM 17 (by show ¬ (19 ≤ 17 ∧ 17 ≤ 44); omega)).trans hO1), ((hexM 18 (by show ¬ (19 ≤ 18 ∧ 18 ≤ 44); omega)).trans ((hexP 18 (by show ¬ (18 ≤ 17 ∨ 100 ≤ 18); omega)).trans hD)), (hsu1.ox (hexM.sub kMk_Ox)), hmu2⟩
      · exfalso; omega
