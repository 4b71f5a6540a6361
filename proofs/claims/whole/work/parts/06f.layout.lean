set_option maxHeartbeats 4000000 in
set_option maxRecDepth 100000 in
theorem c_X1_pushParts {E_o : kE} {l_o : Launch} (hl0 : l_o.stackTraces = false) {w_o : kW} {al : Nat → Nat} {O_o : kO} {sk : Nat → Nat → Int} {t_o : Int} {q_o a_o la na : Nat} {lt_o : Nat → Int} {N_o : Nat → Nat} {c_o : Int} {r_o b_o : Nat} {g_o : Nat → Nat → Int} {i_o j_o k_o lx L_o : Int} (hly : kLy w_o al O_o sk t_o) (hsp : kSp w_o q_o a_o la na lt_o N_o c_o) (hlt : kLt lt_o) (hN_o : ∀ x_o, N_o x_o ≤ 1000) (hru : w_o (100 + r_o) = some (b_o, kRl g_o r_o)) (hwr : m_wf g_o r_o) (hsk : m_sk (m_Cn N_o) lt_o (g_o 2 r_o) (g_o 3 r_o) (g_o 4 r_o) i_o j_o = k_o) (hsl : m_sl (m_Cn N_o) lt_o (g_o 2 r_o) (g_o 3 r_o) (g_o 4 r_o) i_o j_o = lx) (hwy : 0 < m_wy (m_Cn N_o) lt_o (g_o 2 r_o) (g_o 3 r_o) (g_o 4 r_o) i_o j_o) (hi_o : 0 ≤ i_o ∧ i_o ≤ j_o) (hj : j_o < 10) (ht : 0 ≤ t_o ∧ t_o + (j_o - i_o + 1) ≤ 10) : kM E_o l_o yX1_pushParts (.code yX1_pushParts cX1_pushParts 9 none :: kAL) { frames := 2, cells := 0, slots := 0, locals := 49 } 0 0 [.ref (al 0), .ref a_o, .ref b_o, .int (iI i_o), .int (iI j_o), .int (iI L_o)] w_o (pV (fun w2_o => kLy w2_o al (m_gs g_o r_o k_o lx O_o) (m_pp g_o r_o i_o k_o lx j_o L_o sk t_o) (t_o + m_np g_o r_o) ∧ kEx w_o w2_o kLk)) := by
  refine kM_of hl0 (by decide +kernel) (Nat.le_of_ble_eq_true rfl) ?_
  intro X_o hXl h_o hr hin
  subst hXl
  have hsps := m_split hi_o.2 hwy
  rw [hsk, hsl] at hsps
  obtain ⟨hw1, hw2, hw3⟩ := id hwr
  show kG E_o X_o 9 0 0 w_o 0 [(0, .ref (al 0)), (1, .ref a_o), (2, .ref b_o), (3, .int (iI i_o)), (4, .int (iI j_o)), (5, .int (iI L_o))] []
  refine k_aload_n h_o 1 dX1_pushParts_0 rfl rfl ?_
  refine k_aload_n h_o 2 dX1_pushParts_1 rfl rfl ?_
  refine k_iload_n h_o 3 dX1_pushParts_2 rfl rfl ?_
  refine k_iload h_o 4 dX1_pushParts_3 rfl ?_
  refine k_callV (As := [.ref b_o, .int (iI i_o), .int (iI j_o)]) (rest := []) h_o mX3_splitOf kq_2_40 (c_X3_splitOf hl0 hsp hlt hN_o hru hwr hi_o hj) q_o hsp.1 rfl rfl rfl (Nat.le_of_ble_eq_true rfl) ⟨rfl, rfl, ⟨(Nat.le_of_ble_eq_true rfl), (Nat.le_of_ble_eq_true rfl)⟩, ⟨(Nat.le_of_ble_eq_true rfl), (Nat.le_of_ble_eq_true rfl)⟩⟩ dX1_pushParts_5 (kcI fun z5_o w5_o hp => ?_)
  obtain ⟨rfl, rfl⟩ := hp
  refine k_top (z' := k_o * 10 + lx) (by rw [if_pos hwy, hsk, hsl]) ?_
  refine k_istore (lv' := [(6, .int (iI (k_o * 10 + lx))), (0, .ref (al 0)), (1, .ref a_o), (2, .ref b_o), (3, .int (iI i_o)), (4, .int (iI j_o)), (5, .int (iI L_o))]) h_o dX1_pushParts_8 (by decide) rfl ?_
  refine k_iload h_o 0 dX1_pushParts_10 rfl ?_
  refine k_iconst h_o dX1_pushParts_12 ?_
  refine k_icmp_ne h_o 17 (by omega) (by decide) dX1_pushParts_13 (by decide) (fun h13_o => ?_) (fun h13_o => ?_)
  · refine k_iload h_o 0 dX1_pushParts_17 rfl ?_
    refine k_bipush h_o dX1_pushParts_19 (by decide) ?_
    refine k_idiv h_o (by omega) (by decide) dX1_pushParts_21 ?_
    refine k_top (z' := k_o) (by omega) ?_
    refine k_istore (lv' := [(7, .int (iI k_o)), (6, .int (iI (k_o * 10 + lx))), (0, .ref (al 0)), (1, .ref a_o), (2, .ref b_o), (3, .int (iI i_o)), (4, .int (iI j_o)), (5, .int (iI L_o))]) h_o dX1_pushParts_22 (by decide) rfl ?_
    refine k_iload h_o 1 dX1_pushParts_24 rfl ?_
    refine k_bipush h_o dX1_pushParts_26 (by decide) ?_
    refine k_irem h_o (by omega) (by decide) dX1_pushParts_28 ?_
    refine k_top (z' := lx) (by omega) ?_
    refine k_istore (lv' := [(8, .int (iI lx)), (7, .int (iI k_o)), (6, .int (iI (k_o * 10 + lx))), (0, .ref (al 0)), (1, .ref a_o), (2, .ref b_o), (3, .int (iI i_o)), (4, .int (iI j_o)), (5, .int (iI L_o))]) h_o dX1_pushParts_29 (by decide) rfl ?_
    refine k_aload_n h_o 5 dX1_pushParts_31 rfl rfl ?_
    refine k_get h_o (100 + r_o) kf_X1_104 hru rfl dX1_pushParts_32 ?_
    refine k_iconst h_o dX1_pushParts_35 ?_
    refine k_icmp_eq h_o 67 (by omega) (by decide) dX1_pushParts_36 (by decide) (fun h36_o => ?_) (fun h36_o => ?_)
    · refine k_aload_n h_o 5 dX1_pushParts_67 rfl rfl ?_
      refine k_get h_o (100 + r_o) kf_X1_114 hru rfl dX1_pushParts_68 ?_
      refine k_iconst h_o dX1_pushParts_71 ?_
      refine k_icmp_eq h_o 103 (by omega) (by decide) dX1_pushParts_72 (by decide) (fun h72_o => ?_) (fun h72_o => ?_)
      · refine k_aload_n h_o 3 dX1_pushParts_103 rfl rfl ?_
        refine k_aload_n h_o 5 dX1_pushParts_104 rfl rfl ?_
        refine k_get h_o (100 + r_o) kf_X1_117 hru rfl dX1_pushParts_105 ?_
        refine k_iload_n h_o 6 dX1_pushParts_108 rfl rfl ?_
        refine k_iload h_o 1 dX1_pushParts_109 rfl ?_
        refine k_iload h_o 8 dX1_pushParts_111 rfl ?_
        refine k_callV (As := [.int (iI (g_o 2 r_o)), .int (iI i_o), .int (iI k_o), .int (iI L_o)]) (rest := []) h_o mX1_push kq_2_16 (c_X1_push hl0 ⟨hly.1, hly.2.1, hly.2.2.1, hly.2.2.2.1, hly.2.2.2.2.1, hly.2.2.2.2.2.1, hly.2.2.2.2.2.2.1, hly.2.2.2.2.2.2.2⟩ (by omega)) 7 hly.1 rfl rfl rfl (Nat.le_of_ble_eq_true rfl) ⟨rfl, rfl, ⟨(Nat.le_of_ble_eq_true rfl), (Nat.le_of_ble_eq_true rfl)⟩, ⟨(Nat.le_of_ble_eq_true rfl), (Nat.le_of_ble_eq_true rfl)⟩⟩ dX1_pushParts_113 (kcV fun wq1 hp => ?_)
        obtain ⟨hlyq1, hexq1⟩ := hp
        exact k_vret h_o hr (⟨rfl, (by unfold m_gs m_pp m_np; rw [if_pos h72_o, if_pos h72_o, if_pos h72_o]; exact hlyq1), hexq1⟩) (by omega) (by omega) dX1_pushParts_116
      · refine k_aload_n h_o 3 dX1_pushParts_75 rfl rfl ?_
        refine k_iload h_o 1 dX1_pushParts_76 rfl ?_
        refine k_iconst h_o dX1_pushParts_78 ?_
        refine k_iadd h_o dX1_pushParts_79 ?_
        refine k_aload_n h_o 5 dX1_pushParts_80 rfl rfl ?_
        refine k_get h_o (100 + r_o) kf_X1_107 hru rfl dX1_pushParts_81 ?_
        refine k_callV (As := [.int (iI (k_o + 1)), .int (iI (g_o 7 r_o))]) (rest := []) h_o mX1_setGap kq_2_41 (c_X1_setGap hl0 ⟨hly.1, hly.2.1, hly.2.2.1, hly.2.2.2.1, hly.2.2.2.2.1, hly.2.2.2.2.2.1, hly.2.2.2.2.2.2.1, hly.2.2.2.2.2.2.2⟩ (by omega)) 7 hly.1 rfl rfl rfl (Nat.le_of_ble_eq_true rfl) ⟨rfl, rfl, ⟨(Nat.le_of_ble_eq_true rfl), (Nat.le_of_ble_eq_true rfl)⟩, ⟨(Nat.le_of_ble_eq_true rfl), (Nat.le_of_ble_eq_true rfl)⟩⟩ dX1_pushParts_84 (kcV fun wq2 hp => ?_)
        obtain ⟨hlyq2, hexq2⟩ := hp
        refine k_aload_n h_o 3 dX1_pushParts_87 rfl rfl ?_
        refine k_aload_n h_o 5 dX1_pushParts_88 rfl rfl ?_
        refine k_get h_o (100 + r_o) kf_X1_114 ((hexq2 (100 + r_o) (by show ¬ (7 ≤ (100 + r_o) ∧ (100 + r_o) ≤ 14); omega)).trans hru) rfl dX1_pushParts_89 ?_
        refine k_iload h_o 1 dX1_pushParts_92 rfl ?_
        refine k_iconst h_o dX1_pushParts_94 ?_
        refine k_iadd h_o dX1_pushParts_95 ?_
        refine k_iload h_o 0 dX1_pushParts_96 rfl ?_
        refine k_iload h_o 8 dX1_pushParts_98 rfl ?_
        refine k_callV (As := [.int (iI (g_o 3 r_o)), .int (iI (k_o + 1)), .int (iI lx), .int (iI L_o)]) (rest := []) h_o mX1_push kq_2_16 (c_X1_push hl0 ⟨hlyq2.1, hlyq2.2.1, hlyq2.2.2.1, hlyq2.2.2.2.1, hlyq2.2.2.2.2.1, hlyq2.2.2.2.2.2.1, hlyq2.2.2.2.2.2.2.1, hlyq2.2.2.2.2.2.2.2⟩ (by omega)) 7 hlyq2.1 rfl rfl rfl (Nat.le_of_ble_eq_true rfl) ⟨rfl, rfl, ⟨(Nat.le_of_ble_eq_true rfl), (Nat.le_of_ble_eq_true rfl)⟩, ⟨(Nat.le_of_ble_eq_true rfl), (Nat.le_of_ble_eq_true rfl)⟩⟩ dX1_pushParts_100 (kcV fun wq3 hp => ?_)
        obtain ⟨hlyq3, hexq3⟩ := hp
        refine k_aload_n h_o 3 dX1_pushParts_103 rfl rfl ?_
        refine k_aload_n h_o 5 dX1_pushParts_104 rfl rfl ?_
        refine k_get h_o (100 + r_o) kf_X1_117 ((hexq3 (100 + r_o) (by show ¬ (7 ≤ (100 + r_o) ∧ (100 + r_o) ≤ 14); omega)).trans ((hexq2 (100 + r_o) (by show ¬ (7 ≤ (100 + r_o) ∧ (100 + r_o) ≤ 14); omega)).trans hru)) rfl dX1_pushParts_105 ?_
        refine k_iload_n h_o 6 dX1_pushParts_108 rfl rfl ?_
        refine k_iload h_o 1 dX1_pushParts_109 rfl ?_
        refine k_iload h_o 8 dX1_pushParts_111 rfl ?_
        refine k_callV (As := [.int (iI (g_o 2 r_o)), .int (iI i_o), .int (iI k_o), .int (iI L_o)]) (rest := []) h_o mX1_push kq_2_16 (c_X1_push hl0 ⟨hlyq3.1, hlyq3.2.1, hlyq3.2.2.1, hlyq3.2.2.2.1, hlyq3.2.2.2.2.1, hlyq3.2.2.2.2.2.1, hlyq3.2.2.2.2.2.2.1, hlyq3.2.2.2.2.2.2.2⟩ (by omega)) 7 hlyq3.1 rfl rfl rfl (Nat.le_of_ble_eq_true rfl) ⟨rfl, rfl, ⟨(Nat.le_of_ble_eq_true rfl), (Nat.le_of_ble_eq_true rfl)⟩, ⟨(Nat.le_of_ble_eq_true rfl), (Nat.le_of_ble_eq_true rfl)⟩⟩ dX1_pushParts_113 (kcV fun wq4 hp => ?_)
        obtain ⟨hlyq4, hexq4⟩ := hp
        exact k_vret h_o hr (⟨rfl, (by unfold m_gs m_pp m_np; rw [if_neg h72_o, if_neg h72_o, if_neg h72_o, if_pos h36_o, if_pos h36_o, if_pos h36_o, show t_o + 2 = t_o + 1 + 1 by omega]; exact hlyq4), (kEx.trans (kEx.trans hexq2 hexq3) hexq4)⟩) (by omega) (by omega) dX1_pushParts_116
    · refine k_aload_n h_o 3 dX1_pushParts_39 rfl rfl ?_
      refine k_iload h_o 0 dX1_pushParts_40 rfl ?_
      refine k_iconst h_o dX1_pushParts_42 ?_
      refine k_iadd h_o dX1_pushParts_43 ?_
      refine k_aload_n h_o 5 dX1_pushParts_44 rfl rfl ?_
      refine k_get h_o (100 + r_o) kf_X1_107 hru rfl dX1_pushParts_45 ?_
      refine k_callV (As := [.int (iI (lx + 1)), .int (iI (g_o 7 r_o))]) (rest := []) h_o mX1_setGap kq_2_41 (c_X1_setGap hl0 ⟨hly.1, hly.2.1, hly.2.2.1, hly.2.2.2.1, hly.2.2.2.2.1, hly.2.2.2.2.2.1, hly.2.2.2.2.2.2.1, hly.2.2.2.2.2.2.2⟩ (by omega)) 7 hly.1 rfl rfl rfl (Nat.le_of_ble_eq_true rfl) ⟨rfl, rfl, ⟨(Nat.le_of_ble_eq_true rfl), (Nat.le_of_ble_eq_true rfl)⟩, ⟨(Nat.le_of_ble_eq_true rfl), (Nat.le_of_ble_eq_true rfl)⟩⟩ dX1_pushParts_48 (kcV fun wq5 hp => ?_)
      obtain ⟨hlyq5, hexq5⟩ := hp
      refine k_aload_n h_o 3 dX1_pushParts_51 rfl rfl ?_
      refine k_aload_n h_o 5 dX1_pushParts_52 rfl rfl ?_
      refine k_get h_o (100 + r_o) kf_X1_104 ((hexq5 (100 + r_o) (by show ¬ (7 ≤ (100 + r_o) ∧ (100 + r_o) ≤ 14); omega)).trans hru) rfl dX1_pushParts_53 ?_
      refine k_iload h_o 0 dX1_pushParts_56 rfl ?_
      refine k_iconst h_o dX1_pushParts_58 ?_
      refine k_iadd h_o dX1_pushParts_59 ?_
      refine k_iload h_o 7 dX1_pushParts_60 rfl ?_
      refine k_iload h_o 8 dX1_pushParts_62 rfl ?_
      refine k_callV (As := [.int (iI (g_o 4 r_o)), .int (iI (lx + 1)), .int (iI j_o), .int (iI L_o)]) (rest := []) h_o mX1_push kq_2_16 (c_X1_push hl0 ⟨hlyq5.1, hlyq5.2.1, hlyq5.2.2.1, hlyq5.2.2.2.1, hlyq5.2.2.2.2.1, hlyq5.2.2.2.2.2.1, hlyq5.2.2.2.2.2.2.1, hlyq5.2.2.2.2.2.2.2⟩ (by omega)) 7 hlyq5.1 rfl rfl rfl (Nat.le_of_ble_eq_true rfl) ⟨rfl, rfl, ⟨(Nat.le_of_ble_eq_true rfl), (Nat.le_of_ble_eq_true rfl)⟩, ⟨(Nat.le_of_ble_eq_true rfl), (Nat.le_of_ble_eq_true rfl)⟩⟩ dX1_pushParts_64 (kcV fun wq6 hp => ?_)
      obtain ⟨hlyq6, hexq6⟩ := hp
      refine k_aload_n h_o 5 dX1_pushParts_67 rfl rfl ?_
      refine k_get h_o (100 + r_o) kf_X1_114 ((hexq6 (100 + r_o) (by show ¬ (7 ≤ (100 + r_o) ∧ (100 + r_o) ≤ 14); omega)).trans ((hexq5 (100 + r_o) (by show ¬ (7 ≤ (100 + r_o) ∧ (100 + r_o) ≤ 14); omega)).trans hru)) rfl dX1_pushParts_68 ?_
      refine k_iconst h_o dX1_pushParts_71 ?_
      refine k_icmp_eq h_o 103 (by omega) (by decide) dX1_pushParts_72 (by decide) (fun h72_o => ?_) (fun h72_o => ?_)
      · exfalso; omega
      · refine k_aload_n h_o 3 dX1_pushParts_75 rfl rfl ?_
        refine k_iload h_o 1 dX1_pushParts_76 rfl ?_
        refine k_iconst h_o dX1_pushParts_78 ?_
        refine k_iadd h_o dX1_pushParts_79 ?_
        refine k_aload_n h_o 5 dX1_pushParts_80 rfl rfl ?_
        refine k_get h_o (100 + r_o) kf_X1_107 ((hexq6 (100 + r_o) (by show ¬ (7 ≤ (100 + r_o) ∧ (100 + r_o) ≤ 14); omega)).trans ((hexq5 (100 + r_o) (by show ¬ (7 ≤ (100 + r_o) ∧ (100 + r_o) ≤ 14); omega)).trans hru)) rfl dX1_pushParts_81 ?_
        refine k_callV (As := [.int (iI (k_o + 1)), .int (iI (g_o 7 r_o))]) (rest := []) h_o mX1_setGap kq_2_41 (c_X1_setGap hl0 ⟨hlyq6.1, hlyq6.2.1, hlyq6.2.2.1, hlyq6.2.2.2.1, hlyq6.2.2.2.2.1, hlyq6.2.2.2.2.2.1, hlyq6.2.2.2.2.2.2.1, hlyq6.2.2.2.2.2.2.2⟩ (by omega)) 7 hlyq6.1 rfl rfl rfl (Nat.le_of_ble_eq_true rfl) ⟨rfl, rfl, ⟨(Nat.le_of_ble_eq_true rfl), (Nat.le_of_ble_eq_true rfl)⟩, ⟨(Nat.le_of_ble_eq_true rfl), (Nat.le_of_ble_eq_true rfl)⟩⟩ dX1_pushParts_84 (kcV fun wq7 hp => ?_)
        obtain ⟨hlyq7, hexq7⟩ := hp
        refine k_aload_n h_o 3 dX1_pushParts_87 rfl rfl ?_
        refine k_aload_n h_o 5 dX1_pushParts_88 rfl rfl ?_
        refine k_get h_o (100 + r_o) kf_X1_114 ((hexq7 (100 + r_o) (by show ¬ (7 ≤ (100 + r_o) ∧ (100 + r_o) ≤ 14); omega)).trans ((hexq6 (100 + r_o) (by show ¬ (7 ≤ (100 + r_o) ∧ (100 + r_o) ≤ 14); omega)).trans ((hexq5 (100 + r_o) (by show ¬ (7 ≤ (100 + r_o) ∧ (100 + r_o) ≤ 14); omega)).trans hru))) rfl dX1_pushParts_89 ?_
        refine k_iload h_o 1 dX1_pushParts_92 rfl ?_
        refine k_iconst h_o dX1_pushParts_94 ?_
        refine k_iadd h_o dX1_pushParts_95 ?_
        refine k_iload h_o 0 dX1_pushParts_96 rfl ?_
        refine k_iload h_o 8 dX1_pushParts_98 rfl ?_
        refine k_callV (As := [.int (iI (g_o 3 r_o)), .int (iI (k_o + 1)), .int (iI lx), .int (iI L_o)]) (rest := []) h_o mX1_push kq_2_16 (c_X1_push hl0 ⟨hlyq7.1, hlyq7.2.1, hlyq7.2.2.1, hlyq7.2.2.2.1, hlyq7.2.2.2.2.1, hlyq7.2.2.2.2.2.1, hlyq7.2.2.2.2.2.2.1, hlyq7.2.2.2.2.2.2.2⟩ (by omega)) 7 hlyq7.1 rfl rfl rfl (Nat.le_of_ble_eq_true rfl) ⟨rfl, rfl, ⟨(Nat.le_of_ble_eq_true rfl), (Nat.le_of_ble_eq_true rfl)⟩, ⟨(Nat.le_of_ble_eq_true rfl), (Nat.le_of_ble_eq_true rfl)⟩⟩ dX1_pushParts_100 (kcV fun wq8 hp => ?_)
        obtain ⟨hlyq8, hexq8⟩ := hp
        refine k_aload_n h_o 3 dX1_pushParts_103 rfl rfl ?_
        refine k_aload_n h_o 5 dX1_pushParts_104 rfl rfl ?_
        refine k_get h_o (100 + r_o) kf_X1_117 ((hexq8 (100 + r_o) (by show ¬ (7 ≤ (100 + r_o) ∧ (100 + r_o) ≤ 14); omega)).trans ((hexq7 (100 + r_o) (by show ¬ (7 ≤ (100 + r_o) ∧ (100 + r_o) ≤ 14); omega)).trans ((hexq6 (100 + r_o) (by show ¬ (7 ≤ (100 + r_o) ∧ (100 + r_o) ≤ 14); omega)).trans ((hexq5 (100 + r_o) (by show ¬ (7 ≤ (100 + r_o) ∧ (100 + r_o) ≤ 14); omega)).trans hru)))) rfl dX1_pushParts_105 ?_
        refine k_iload_n h_o 6 dX1_pushParts_108 rfl rfl ?_
        refine k_iload h_o 1 dX1_pushParts_109 rfl ?_
        refine k_iload h_o 8 dX1_pushParts_111 rfl ?_
        refine k_callV (As := [.int (iI (g_o 2 r_o)), .int (iI i_o), .int (iI k_o), .int (iI L_o)]) (rest := []) h_o mX1_push kq_2_16 (c_X1_push hl0 ⟨hlyq8.1, hlyq8.2.1, hlyq8.2.2.1, hlyq8.2.2.2.1, hlyq8.2.2.2.2.1, hlyq8.2.2.2.2.2.1, hlyq8.2.2.2.2.2.2.1, hlyq8.2.2.2.2.2.2.2⟩ (by omega)) 7 hlyq8.1 rfl rfl rfl (Nat.le_of_ble_eq_true rfl) ⟨rfl, rfl, ⟨(Nat.le_of_ble_eq_true rfl), (Nat.le_of_ble_eq_true rfl)⟩, ⟨(Nat.le_of_ble_eq_true rfl), (Nat.le_of_ble_eq_true rfl)⟩⟩ dX1_pushParts_113 (kcV fun wq9 hp => ?_)
        obtain ⟨hlyq9, hexq9⟩ := hp
        exact k_vret h_o hr (⟨rfl, (by unfold m_gs m_pp m_np; rw [if_neg h72_o, if_neg h72_o, if_neg h72_o, if_neg h36_o, if_neg h36_o, if_neg h36_o, show t_o + 3 = t_o + 1 + 1 + 1 by omega]; exact hlyq9), (kEx.trans (kEx.trans (kEx.trans (kEx.trans hexq5 hexq6) hexq7) hexq8) hexq9)⟩) (by omega) (by omega) dX1_pushParts_116
  · exfalso; omega

set_option maxHeartbeats 4000000 in
set_option maxRecDepth 100000 in
theorem c_X1_lay {E_o : kE} {l_o : Launch} (hl0 : l_o.stackTraces = false) {w_o : kW} {al : Nat → Nat} {O_o : kO} {sk : Nat → Nat → Int} {t_o : Int} {q_o a_o la na : Nat} {lt_o : Nat → Int} {N_o : Nat → Nat} {c_o : Int} {ag ap nr : Nat} {ra : Nat → Nat} {g_o : Nat → Nat → Int} (hly : kLy w_o al O_o sk t_o) (hsp : kSp w_o q_o a_o la na lt_o N_o c_o) (hlt : kLt lt_o) (hN_o : ∀ x_o, N_o x_o ≤ 1000) (hgr : kGr w_o ag ap nr ra g_o) (hwf : kWf g_o nr) (hqq : q_o + 2 < 7 ∨ 14 < q_o) (hT : kTr N_o g_o nr lt_o c_o) (hc_o : 1 ≤ c_o ∧ c_o ≤ 10) (hOi : kOi O_o) : kM E_o l_o yX1_lay (.code yX1_lay cX1_lay 9 none :: kAL) { frames := 3, cells := 0, slots := 0, locals := 77 } 0 0 [.ref (al 0), .ref ag, .ref a_o] w_o (pV (fun w2_o => ∃ sk2 : Nat → Nat → Int, kLy w2_o al (m_lay g_o nr lt_o c_o O_o) sk2 0 ∧ kEx w_o w2_o kLk)) := by
  refine kM_of hl0 (by decide +kernel) (Nat.le_of_ble_eq_true rfl) ?_
  intro X_o hXl h_o hr hin
  subst hXl
  show kG E_o X_o 9 0 0 w_o 0 [(0, .ref (al 0)), (1, .ref ag), (2, .ref a_o)] []
  have hnr := hgr.2.2.2
  have EXIT : ∀ (O9 : kO) (sk : Nat → Nat → Int) (y_o : Int) (w8_o : kW), kLy w8_o al O9 sk 0 → kEx w_o w8_o kLk → O9 = m_lay g_o nr lt_o c_o O_o → 0 ≤ y_o ∧ y_o ≤ 105 → kG E_o X_o 9 0 0 w8_o 27 [(0, .ref (al 0)), (1, .ref ag), (2, .ref a_o), (3, .int (iI y_o))] [] := by
    intro O9 sk y_o w8_o hly8 hex8 heO hyy
    refine k_iload_n h_o 3 dX1_lay_27 rfl rfl ?_
    refine k_bipush h_o dX1_lay_28 (by decide) ?_
    refine k_icmp_ge h_o 186 (by omega) (by decide) dX1_lay_30 (by decide) (fun h30_o => ?_) (fun h30_o => ?_)
    · exact k_vret h_o hr (⟨rfl, sk, heO ▸ hly8, hex8⟩) (by omega) (by omega) dX1_lay_186
    · refine k_aload_n h_o 0 dX1_lay_33 rfl rfl ?_
      refine k_get h_o 7 kf_X1_33 hly8.1 rfl dX1_lay_34 ?_
      refine k_ifle h_o 186 (by decide) dX1_lay_37 (by decide) (fun h37_o => ?_) (fun h37_o => ?_)
      · exact k_vret h_o hr (⟨rfl, sk, heO ▸ hly8, hex8⟩) (by omega) (by omega) dX1_lay_186
      · exfalso; omega
  have LOOP : ∀ (d_o : Nat) (s_o i_o j_o L_o : Int) (O_o : kO) (sk : Nat → Nat → Int) (t_o y_o : Int) (w8_o : kW), m_isS s_o → (0 ≤ i_o ∧ i_o ≤ j_o ∧ j_o < c_o ∧ m_M s_o i_o j_o < (d_o : Int) ∧ 0 ≤ L_o ∧ L_o + m_M s_o i_o j_o ≤ 95 ∧ 0 ≤ O_o.1 ∧ O_o.1 + m_M s_o i_o j_o ≤ 95 ∧ 0 ≤ O_o.2.2.2.2.2 ∧ 0 ≤ t_o ∧ t_o + (j_o - i_o + 1) ≤ 10 ∧ y_o = O_o.1 + O_o.2.2.2.2.2 ∧ y_o + m_M s_o i_o j_o + (j_o - i_o + 1) ≤ 105) → kOi O_o → 0 < m_part (m_TT g_o nr lt_o) lt_o s_o i_o j_o → kIt sk t_o.toNat s_o i_o j_o L_o → kLy w8_o al O_o sk (t_o + 1) → kEx w_o w8_o kLk → (∀ (sk3 : Nat → Nat → Int) (w3_o : kW) (y3 : Int), (∀ xx kk : Nat, xx < t_o.toNat → kk < 4 → sk3 kk xx = sk kk xx) → kLy w3_o al (m_run g_o nr lt_o d_o s_o i_o j_o L_o O_o) sk3 t_o → kEx w_o w3_o kLk → y3 = (m_run g_o nr lt_o d_o s_o i_o j_o L_o O_o).1 + (m_run g_o nr lt_o d_o s_o i_o j_o L_o O_o).2.2.2.2.2 → kG E_o X_o 9 0 0 w3_o 27 [(0, .ref (al 0)), (1, .ref ag), (2, .ref a_o), (3, .int (iI y3))] []) → kG E_o X_o 9 0 0 w8_o 27 [(0, .ref (al 0)), (1, .ref ag), (2, .ref a_o), (3, .int (iI y_o))] [] := by
    intro d_o
    induction d_o with
    | zero =>
      intro s_o i_o j_o L_o O_o sk t_o y_o w8_o hs hb
      have := m_M_rg (i := i_o) (j := j_o) hs (by omega)
      exfalso; omega
    | succ d_o ih_o =>
      intro s_o i_o j_o L_o O_o sk t_o y_o w8_o hs hb hOi hpos hit hly8 hex8 hcont
      have hMr := m_M_rg (i := i_o) (j := j_o) hs (by omega)
      have hdp := hOi.2.2.1
      have hspB := hsp.lk hex8 hqq
      have hgrB := hgr.lk hex8
      refine k_iload_n h_o 3 dX1_lay_27 rfl rfl ?_
      refine k_bipush h_o dX1_lay_28 (by decide) ?_
      refine k_icmp_ge h_o 186 (by omega) (by decide) dX1_lay_30 (by decide) (fun h30_o => ?_) (fun h30_o => ?_)
      · exfalso; omega
      · refine k_aload_n h_o 0 dX1_lay_33 rfl rfl ?_
        refine k_get h_o 7 kf_X1_33 hly8.1 rfl dX1_lay_34 ?_
        refine k_ifle h_o 186 (by omega) dX1_lay_37 (by decide) (fun h37_o => ?_) (fun h37_o => ?_)
        · exfalso; omega
        · refine k_aload_n h_o 0 dX1_lay_40 rfl rfl ?_
          refine k_get h_o 7 kf_X1_33 hly8.1 rfl dX1_lay_41 ?_
          refine k_bipush h_o dX1_lay_44 (by decide) ?_
          refine k_icmp_gt h_o 186 (by omega) (by decide) dX1_lay_46 (by decide) (fun h46_o => ?_) (fun h46_o => ?_)
          · exfalso; omega
          · refine k_aload_n h_o 0 dX1_lay_49 rfl rfl ?_
            refine k_dup h_o dX1_lay_50 rfl ?_
            refine k_get h_o 7 kf_X1_33 hly8.1 rfl dX1_lay_51 ?_
            refine k_iconst h_o dX1_lay_54 ?_
            refine k_isub h_o dX1_lay_55 ?_
            refine k_top (z' := t_o) (by omega) ?_
            refine k_put (fs' := [.ref (al 1), .ref (al 2), .ref (al 3), .ref (al 4), .ref (al 5), .ref (al 6), .ref (al 7), .int (iI t_o), .int (iI O_o.1), .int (iI O_o.2.2.2.2.1), .int (iI O_o.2.2.2.2.2)]) h_o 7 kf_X1_33 kt_X1_7 hly8.1 rfl rfl (Nat.le_of_ble_eq_true rfl) rfl dX1_lay_56 ?_
            refine k_aload_n h_o 0 dX1_lay_59 rfl rfl ?_
            refine k_get h_o 7 kf_X1_21 kset_eq rfl dX1_lay_60 ?_
            refine k_aload_n h_o 0 dX1_lay_63 rfl rfl ?_
            refine k_get h_o 7 kf_X1_33 kset_eq rfl dX1_lay_64 ?_
            refine k_iald h_o 11 ((kset_ne (by decide)).trans hly8.2.2.2.2.1) (by omega) (by decide) dX1_lay_67 ?_
            refine k_top (z' := s_o) (hit.1) ?_
            refine k_istore (lv' := [(4, .int (iI s_o)), (0, .ref (al 0)), (1, .ref ag), (2, .ref a_o), (3, .int (iI y_o))]) h_o dX1_lay_68 (by decide) rfl ?_
            refine k_aload_n h_o 1 dX1_lay_70 rfl rfl ?_
            refine k_get h_o 7 kf_X1_24 kset_eq rfl dX1_lay_71 ?_
            refine k_aload_n h_o 1 dX1_lay_74 rfl rfl ?_
            refine k_get h_o 7 kf_X1_33 kset_eq rfl dX1_lay_75 ?_
            refine k_iald h_o 12 ((kset_ne (by decide)).trans hly8.2.2.2.2.2.1) (by omega) (by decide) dX1_lay_78 ?_
            refine k_top (z' := i_o) (hit.2.1) ?_
            refine k_istore (lv' := [(5, .int (iI i_o)), (4, .int (iI s_o)), (0, .ref (al 0)), (1, .ref ag), (2, .ref a_o), (3, .int (iI y_o))]) h_o dX1_lay_79 (by decide) rfl ?_
            refine k_aload_n h_o 2 dX1_lay_81 rfl rfl ?_
            refine k_get h_o 7 kf_X1_27 kset_eq rfl dX1_lay_82 ?_
            refine k_aload_n h_o 2 dX1_lay_85 rfl rfl ?_
            refine k_get h_o 7 kf_X1_33 kset_eq rfl dX1_lay_86 ?_
            refine k_iald h_o 13 ((kset_ne (by decide)).trans hly8.2.2.2.2.2.2.1) (by omega) (by decide) dX1_lay_89 ?_
            refine k_top (z' := j_o) (hit.2.2.1) ?_
            refine k_istore (lv' := [(6, .int (iI j_o)), (5, .int (iI i_o)), (4, .int (iI s_o)), (0, .ref (al 0)), (1, .ref ag), (2, .ref a_o), (3, .int (iI y_o))]) h_o dX1_lay_90 (by decide) rfl ?_
            refine k_aload_n h_o 3 dX1_lay_92 rfl rfl ?_
            refine k_get h_o 7 kf_X1_30 kset_eq rfl dX1_lay_93 ?_
            refine k_aload_n h_o 3 dX1_lay_96 rfl rfl ?_
            refine k_get h_o 7 kf_X1_33 kset_eq rfl dX1_lay_97 ?_
            refine k_iald h_o 14 ((kset_ne (by decide)).trans hly8.2.2.2.2.2.2.2) (by omega) (by decide) dX1_lay_100 ?_
            refine k_top (z' := L_o) (hit.2.2.2) ?_
            refine k_istore (lv' := [(7, .int (iI L_o)), (6, .int (iI j_o)), (5, .int (iI i_o)), (4, .int (iI s_o)), (0, .ref (al 0)), (1, .ref ag), (2, .ref a_o), (3, .int (iI y_o))]) h_o dX1_lay_101 (by decide) rfl ?_
            refine k_iload h_o 3 dX1_lay_103 rfl ?_
            refine k_callSN (As := [.int (iI s_o)]) (rest := []) h_o mX6_isLetter kq_2_20 (c_X6_isLetter hl0 (by omega)) rfl rfl (Nat.le_of_ble_eq_true rfl) ⟨rfl, rfl, ⟨(Nat.le_of_ble_eq_true rfl), (Nat.le_of_ble_eq_true rfl)⟩, ⟨(Nat.le_of_ble_eq_true rfl), (Nat.le_of_ble_eq_true rfl)⟩⟩ dX1_lay_105 (kcI fun z105_o w105_o hp => ?_)
            obtain ⟨rfl, rfl⟩ := hp
            refine k_ifBeq h_o 137 dX1_lay_108 (by decide) (fun h108_o => ?_) (fun h108_o => ?_)
            · have hnm : m_isN s_o := by omega
              have hpos2 := hpos
              rw [m_part_N hnm] at hpos2
              obtain ⟨r_o, k_o, lx, hr1, hr2, hr3, hr4, hr5, hr6, hr7, hr8, hr9⟩ := m_nod hwf hnm (by omega) (by omega) hpos2
              have hagr := hT.ag (i := i_o) (j := j_o) (by omega) (by omega)
              refine k_aload_n h_o 5 dX1_lay_137 rfl rfl ?_
              refine k_aload_n h_o 6 dX1_lay_138 rfl rfl ?_
              refine k_iload h_o 3 dX1_lay_139 rfl ?_
              refine k_iload h_o 2 dX1_lay_141 rfl ?_
              refine k_iload h_o 1 dX1_lay_143 rfl ?_
              refine k_callV (As := [.ref a_o, .int (iI s_o), .int (iI i_o), .int (iI j_o)]) (rest := []) h_o mX0_chosenRule kq_2_24 (c_X0_chosenRule hl0 ⟨((kset_ne (by omega)).trans hspB.1), ((kset_ne (by omega)).trans hspB.2.1), ((kset_ne (by omega)).trans hspB.2.2)⟩ hlt hN_o (hgrB.ne (by decide) (by decide) (by omega)) hwf hnm (by omega) (by omega)) 1 ((kset_ne (by decide)).trans hgrB.1) rfl rfl rfl (Nat.le_of_ble_eq_true rfl) ⟨rfl, rfl, ⟨(Nat.le_of_ble_eq_true rfl), (Nat.le_of_ble_eq_true rfl)⟩, ⟨(Nat.le_of_ble_eq_true rfl), (Nat.le_of_ble_eq_true rfl)⟩⟩ dX1_lay_145 (kcQ fun z145_o w145_o hp => ?_)
              obtain ⟨rfl, rfl⟩ := hp
              refine k_topQ (a := ra r_o) (by rw [m_ch_ag (fun x_o hx => (hwf x_o hx).1) hagr (by omega), hr2]; rfl) ?_
              refine k_astore (lv' := [(8, .ref (ra r_o)), (7, .int (iI L_o)), (6, .int (iI j_o)), (5, .int (iI i_o)), (4, .int (iI s_o)), (0, .ref (al 0)), (1, .ref ag), (2, .ref a_o), (3, .int (iI y_o))]) h_o dX1_lay_148 (by decide) rfl ?_
              refine k_aload h_o 0 dX1_lay_150 rfl ?_
              refine k_ifnull h_o dX1_lay_152 ?_
              refine k_aload_n h_o 5 dX1_lay_155 rfl rfl ?_
              refine k_aload h_o 0 dX1_lay_156 rfl ?_
              refine k_iload h_o 3 dX1_lay_158 rfl ?_
              refine k_iload h_o 2 dX1_lay_160 rfl ?_
              refine k_callV (As := [.ref (ra r_o), .int (iI i_o), .int (iI j_o)]) (rest := []) h_o mX1_layRule kq_2_32 (c_X1_layRule hl0 ⟨kset_eq, ((kset_ne (by decide)).trans hly8.2.1), ((kset_ne (by decide)).trans hly8.2.2.1), ((kset_ne (by decide)).trans hly8.2.2.2.1), ((kset_ne (by decide)).trans hly8.2.2.2.2.1), ((kset_ne (by decide)).trans hly8.2.2.2.2.2.1), ((kset_ne (by decide)).trans hly8.2.2.2.2.2.2.1), ((kset_ne (by decide)).trans hly8.2.2.2.2.2.2.2)⟩ ((kset_ne (by omega)).trans (hgrB.2.2.1 r_o hr1)) (hwf r_o hr1).2.2.1 (by rw [m_M_N hnm] at hb; omega) (by omega) (by omega)) 7 kset_eq rfl rfl rfl (Nat.le_of_ble_eq_true rfl) ⟨rfl, rfl, ⟨(Nat.le_of_ble_eq_true rfl), (Nat.le_of_ble_eq_true rfl)⟩, ⟨(Nat.le_of_ble_eq_true rfl), (Nat.le_of_ble_eq_true rfl)⟩⟩ dX1_lay_162 (kcV fun wq10 hp => ?_)
              obtain ⟨hlyq10, hexq10⟩ := hp
              refine k_aload_n h_o 5 dX1_lay_165 rfl rfl ?_
              refine k_aload_n h_o 7 dX1_lay_166 rfl rfl ?_
              refine k_aload h_o 0 dX1_lay_167 rfl ?_
              refine k_iload h_o 3 dX1_lay_169 rfl ?_
              refine k_iload h_o 2 dX1_lay_171 rfl ?_
              refine k_iload h_o 1 dX1_lay_173 rfl ?_
              refine k_iconst h_o dX1_lay_175 ?_
              refine k_iadd h_o dX1_lay_176 ?_
              refine k_callV (As := [.ref a_o, .ref (ra r_o), .int (iI i_o), .int (iI j_o), .int (iI (L_o + 1))]) (rest := []) h_o mX1_pushParts kq_2_36 (c_X1_pushParts hl0 ⟨hlyq10.1, hlyq10.2.1, hlyq10.2.2.1, hlyq10.2.2.2.1, hlyq10.2.2.2.2.1, hlyq10.2.2.2.2.2.1, hlyq10.2.2.2.2.2.2.1, hlyq10.2.2.2.2.2.2.2⟩ (k_o := k_o) (lx := lx) ⟨((hexq10 q_o (by show ¬ (7 ≤ q_o ∧ q_o ≤ 14); omega)).trans ((kset_ne (by omega)).trans hspB.1)), ((hexq10 (q_o + 1) (by show ¬ (7 ≤ (q_o + 1) ∧ (q_o + 1) ≤ 14); omega)).trans ((kset_ne (by omega)).trans hspB.2.1)), ((hexq10 (q_o + 2) (by show ¬ (7 ≤ (q_o + 2) ∧ (q_o + 2) ≤ 14); omega)).trans ((kset_ne (by omega)).trans hspB.2.2))⟩ hlt hN_o ((hexq10 (100 + r_o) (by show ¬ (7 ≤ (100 + r_o) ∧ (100 + r_o) ≤ 14); omega)).trans ((kset_ne (by omega)).trans (hgrB.2.2.1 r_o hr1))) hr7 (by rw [m_sk_ag hagr (m_wf_w3 hr7) (by omega)]; exact hr3) (by rw [m_sl_ag hagr (m_wf_w3 hr7) (by omega)]; exact hr4) (by rw [m_wy_ag hagr (m_wf_w3 hr7) (by omega)]; exact hr8) (by omega) (by omega) (by omega)) 7 hlyq10.1 rfl rfl rfl (Nat.le_of_ble_eq_true rfl) ⟨rfl, rfl, ⟨(Nat.le_of_ble_eq_true rfl), (Nat.le_of_ble_eq_true rfl)⟩, ⟨(Nat.le_of_ble_eq_true rfl), (Nat.le_of_ble_eq_true rfl)⟩⟩ dX1_lay_177 (kcV fun wq11 hp => ?_)
              obtain ⟨hlyq11, hexq11⟩ := hp
              refine k_iinc (lv' := [(3, .int (iI (y_o + 1))), (8, .ref (ra r_o)), (7, .int (iI L_o)), (6, .int (iI j_o)), (5, .int (iI i_o)), (4, .int (iI s_o)), (0, .ref (al 0)), (1, .ref ag), (2, .ref a_o)]) h_o 8 dX1_lay_180 rfl (by decide) rfl ?_
              refine k_goto h_o 27 dX1_lay_183 (by decide) ?_
              refine k_sub (lv' := [(0, .ref (al 0)), (1, .ref ag), (2, .ref a_o), (3, .int (iI (y_o + 1)))]) [6, 7, 8, 0] rfl ?_
              obtain ⟨cc1, cc2⟩ := m_gs_cnt (g := g_o) (r := r_o) (k := k_o) (l := lx) (O := m_lr g_o r_o i_o j_o O_o)
              have cc3 : (m_gs g_o r_o k_o lx (m_lr g_o r_o i_o j_o O_o)).1 = O_o.1 + 1 := cc1
              have cc4 : (m_gs g_o r_o k_o lx (m_lr g_o r_o i_o j_o O_o)).2.2.2.2.2 = O_o.2.2.2.2.2 := cc2
              have cc5 : kOi (m_gs g_o r_o k_o lx (m_lr g_o r_o i_o j_o O_o)) := kOi_gs hwf hr1 (kOi_lr hwf hnr hr1 hOi)
              have hMs := m_M_N (s := s_o) (i := i_o) (j := j_o) hnm
              have hrun := m_run_N (d := d_o) (L := L_o) (O := O_o) hnm hr2 hr3 hr4
              have hex9 : kEx w_o _ kLk := (kEx.trans (kEx.trans (kEx.trans hex8 (kEx.kset ⟨by decide, by decide⟩)) hexq10) hexq11)
              have hly9 := hlyq11
              unfold m_nd at hrun; unfold m_pp m_np at hly9
              generalize (m_gs g_o r_o k_o lx (m_lr g_o r_o i_o j_o O_o)) = O1 at *
              rcases hr9 with ⟨a1, a2, a3, a4, a5, a6, a7⟩ | ⟨a1, a2, a3, a4, a5, a6, a7, a8⟩ | ⟨a1, a2, a3, a4, a5, a6, a7, a8, a9⟩
              · rw [if_pos a1] at hrun; rw [if_pos a1, if_pos a1] at hly9
                have hm_o := m_M_1 (i := i_o) (j := j_o) hnm a5 (by omega) a6
                subst a3
                refine ih_o (g_o 2 r_o) i_o k_o (L_o + 1) O1 _ t_o _ _ a5 (by omega) cc5 a7 kIt.top hly9 hex9 (fun sk3 w3_o y3 q1 q2 q3 q4 => ?_)
                rw [← hrun] at q2 q4
                exact hcont sk3 w3_o y3 (fun xx kk e1 e2 => (q1 xx kk e1 e2).trans (m_psh_old (by omega) kk e2)) q2 q3 q4
              · rw [if_neg (m_sym1 a1), if_pos a2] at hrun; rw [if_neg (m_sym1 a1), if_pos a2, if_neg (m_sym1 a1), if_pos a2, show t_o + 2 = t_o + 1 + 1 by omega] at hly9
                subst a5
                have r1 := m_M_rg a6 a3
                have r2 := m_M_rg (i := k_o + 1) (j := lx) a1 (by omega)
                have b1 := m_run_cnt hwf d_o (g_o 2 r_o) i_o k_o (L_o + 1) O1 a6 a3 (by omega) a7 (by omega)
                have d1 := kOi_run hwf hnr d_o (g_o 2 r_o) i_o k_o (L_o + 1) O1 a6 a3 (by omega) a7 (by omega) (by omega) (by omega) cc5
                refine ih_o (g_o 2 r_o) i_o k_o (L_o + 1) O1 _ (t_o + 1) _ _ a6 (by omega) cc5 a7 kIt.top hly9 hex9 (fun sk3 w3_o y3 q1 q2 q3 q4 => ?_)
                have kt : kIt sk3 t_o.toNat (g_o 3 r_o) (k_o + 1) lx (L_o + 1) := kIt.from q1 (by omega) (by omega) kIt.top
                refine ih_o (g_o 3 r_o) (k_o + 1) lx (L_o + 1) _ sk3 t_o y3 w3_o a1 (by omega) d1 a8 kt q2 q3 (fun sk4 w4_o y4 u1 u2 u3 u4 => ?_)
                rw [← hrun] at u2 u4
                exact hcont sk4 w4_o y4 (fun xx kk e1 e2 => (u1 xx kk e1 e2).trans ((q1 xx kk (by omega) e2).trans ((m_psh_old (by omega) kk e2).trans (m_psh_old (by omega) kk e2)))) u2 u3 u4
              · rw [if_neg (m_sym1 a1), if_neg (m_sym1 a2)] at hrun; rw [if_neg (m_sym1 a1), if_neg (m_sym1 a2), if_neg (m_sym1 a1), if_neg (m_sym1 a2), show t_o + 3 = t_o + 1 + 1 + 1 by omega] at hly9
                have r1 := m_M_rg a6 a3
                have r2 := m_M_rg (i := k_o + 1) (j := lx) a1 (by omega)
                have r3 := m_M_rg (i := lx + 1) (j := j_o) a2 (by omega)
                have b1 := m_run_cnt hwf d_o (g_o 2 r_o) i_o k_o (L_o + 1) O1 a6 a3 (by omega) a7 (by omega)
                have d1 := kOi_run hwf hnr d_o (g_o 2 r_o) i_o k_o (L_o + 1) O1 a6 a3 (by omega) a7 (by omega) (by omega) (by omega) cc5
                have b2 := m_run_cnt hwf d_o (g_o 3 r_o) (k_o + 1) lx (L_o + 1) (m_run g_o nr lt_o d_o (g_o 2 r_o) i_o k_o (L_o + 1) O1) a1 (by omega) (by omega) a8 (by omega)
                have d2 := kOi_run hwf hnr d_o (g_o 3 r_o) (k_o + 1) lx (L_o + 1) _ a1 (by omega) (by omega) a8 (by omega) (by omega) (by omega) d1
                refine ih_o (g_o 2 r_o) i_o k_o (L_o + 1) O1 _ (t_o + 1 + 1) _ _ a6 (by omega) cc5 a7 kIt.top hly9 hex9 (fun sk3 w3_o y3 q1 q2 q3 q4 => ?_)
                have kt : kIt sk3 (t_o + 1).toNat (g_o 3 r_o) (k_o + 1) lx (L_o + 1) := kIt.from q1 (by omega) (by omega) kIt.top
                refine ih_o (g_o 3 r_o) (k_o + 1) lx (L_o + 1) _ sk3 (t_o + 1) y3 w3_o a1 (by omega) d1 a8 kt q2 q3 (fun sk4 w4_o y4 u1 u2 u3 u4 => ?_)
                have kt2 : kIt sk4 t_o.toNat (g_o 4 r_o) (lx + 1) j_o (L_o + 1) := by
                  have f_o : ∀ kk : Nat, kk < 4 → sk4 kk t_o.toNat = (m_psh sk t_o.toNat (g_o 4 r_o) (lx + 1) j_o (L_o + 1)) kk t_o.toNat := fun kk e2 => (u1 t_o.toNat kk (by omega) e2).trans ((q1 t_o.toNat kk (by omega) e2).trans ((m_psh_old (by omega) kk e2).trans (m_psh_old (by omega) kk e2)))
                  obtain ⟨p1, p2, p3, p4⟩ := kIt.top (sk := sk) (x := t_o.toNat) (s := g_o 4 r_o) (i := lx + 1) (j := j_o) (L := L_o + 1)
                  exact ⟨(f_o 0 (by decide)).trans p1, (f_o 1 (by decide)).trans p2, (f_o 2 (by decide)).trans p3, (f_o 3 (by decide)).trans p4⟩
                refine ih_o (g_o 4 r_o) (lx + 1) j_o (L_o + 1) _ sk4 t_o y4 w4_o a2 (by omega) d2 a9 kt2 u2 u3 (fun sk5 w5_o y5 v1 v2 v3 v4 => ?_)
                rw [← hrun] at v2 v4
                exact hcont sk5 w5_o y5 (fun xx kk e1 e2 => (v1 xx kk e1 e2).trans ((u1 xx kk (by omega) e2).trans ((q1 xx kk (by omega) e2).trans ((m_psh_old (by omega) kk e2).trans ((m_psh_old (by omega) kk e2).trans (m_psh_old (by omega) kk e2)))))) v2 v3 v4
            · refine k_aload_n h_o 4 dX1_lay_111 rfl rfl ?_
              refine k_dup h_o dX1_lay_112 rfl ?_
              refine k_get h_o 7 kf_X1_43 kset_eq rfl dX1_lay_113 ?_
              refine k_iconst h_o dX1_lay_116 ?_
              refine k_iadd h_o dX1_lay_117 ?_
              refine k_put (fs' := [.ref (al 1), .ref (al 2), .ref (al 3), .ref (al 4), .ref (al 5), .ref (al 6), .ref (al 7), .int (iI t_o), .int (iI O_o.1), .int (iI O_o.2.2.2.2.1), .int (iI (O_o.2.2.2.2.2 + 1))]) h_o 7 kf_X1_43 kt_X1_10 kset_eq rfl rfl (Nat.le_of_ble_eq_true rfl) rfl dX1_lay_118 ?_
              refine k_aload_n h_o 4 dX1_lay_121 rfl rfl ?_
              refine k_aload_n h_o 4 dX1_lay_122 rfl rfl ?_
              refine k_get h_o 7 kf_X1_40 kset_eq rfl dX1_lay_123 ?_
              refine k_iload h_o 0 dX1_lay_126 rfl ?_
              refine k_max h_o (by omega) (by omega) kq_2_21 kq_2_22 kq_1_15 kq_2_23 ⟨(Nat.le_of_ble_eq_true rfl), (Nat.le_of_ble_eq_true rfl), (Nat.le_of_ble_eq_true rfl), (Nat.le_of_ble_eq_true rfl)⟩ dX1_lay_128 ?_
              refine k_put (fs' := [.ref (al 1), .ref (al 2), .ref (al 3), .ref (al 4), .ref (al 5), .ref (al 6), .ref (al 7), .int (iI t_o), .int (iI O_o.1), .int (iI (if O_o.2.2.2.2.1 < L_o then L_o else O_o.2.2.2.2.1)), .int (iI (O_o.2.2.2.2.2 + 1))]) h_o 7 kf_X1_40 kt_X1_9 kset_eq rfl rfl (Nat.le_of_ble_eq_true rfl) rfl dX1_lay_131 ?_
              refine k_goto h_o 180 dX1_lay_134 (by decide) ?_
              refine k_iinc (lv' := [(3, .int (iI (y_o + 1))), (7, .int (iI L_o)), (6, .int (iI j_o)), (5, .int (iI i_o)), (4, .int (iI s_o)), (0, .ref (al 0)), (1, .ref ag), (2, .ref a_o)]) h_o 7 dX1_lay_180 rfl (by decide) rfl ?_
              refine k_goto h_o 27 dX1_lay_183 (by decide) ?_
              refine k_sub (lv' := [(0, .ref (al 0)), (1, .ref ag), (2, .ref a_o), (3, .int (iI (y_o + 1)))]) [5, 6, 7, 0] rfl ?_
              have hcu := m_run_L (g := g_o) (nr := nr) (lt := lt_o) (d := d_o) (i := i_o) (j := j_o) (L := L_o) (O := O_o) h108_o
              refine hcont sk _ _ (fun _ _ _ _ => rfl) (hcu ▸ (show kLy _ al (m_le O_o L_o) sk t_o from ⟨kset_eq, ((kset_ne (by decide)).trans ((kset_ne (by decide)).trans ((kset_ne (by decide)).trans hly8.2.1))), ((kset_ne (by decide)).trans ((kset_ne (by decide)).trans ((kset_ne (by decide)).trans hly8.2.2.1))), ((kset_ne (by decide)).trans ((kset_ne (by decide)).trans ((kset_ne (by decide)).trans hly8.2.2.2.1))), ((kset_ne (by decide)).trans ((kset_ne (by decide)).trans ((kset_ne (by decide)).trans hly8.2.2.2.2.1))), ((kset_ne (by decide)).trans ((kset_ne (by decide)).trans ((kset_ne (by decide)).trans hly8.2.2.2.2.2.1))), ((kset_ne (by decide)).trans ((kset_ne (by decide)).trans ((kset_ne (by decide)).trans hly8.2.2.2.2.2.2.1))), ((kset_ne (by decide)).trans ((kset_ne (by decide)).trans ((kset_ne (by decide)).trans hly8.2.2.2.2.2.2.2)))⟩)) (hex8.trans (kEx.trans (kEx.kset ⟨by decide, by decide⟩) (kEx.trans (kEx.kset ⟨by decide, by decide⟩) (kEx.kset ⟨by decide, by decide⟩)))) ?_
              rw [hcu]; show y_o + 1 = O_o.1 + (O_o.2.2.2.2.2 + 1); omega
  refine k_aload_n h_o 0 dX1_lay_0 rfl rfl ?_
  refine k_callV (As := []) (rest := []) h_o mX1_clear kq_2_10 (c_X1_clear hl0 ⟨hly.1, hly.2.1, hly.2.2.1, hly.2.2.2.1, hly.2.2.2.2.1, hly.2.2.2.2.2.1, hly.2.2.2.2.2.2.1, hly.2.2.2.2.2.2.2⟩ ) 7 hly.1 rfl rfl rfl (Nat.le_of_ble_eq_true rfl) ⟨rfl, rfl, ⟨(Nat.le_of_ble_eq_true rfl), (Nat.le_of_ble_eq_true rfl)⟩, ⟨(Nat.le_of_ble_eq_true rfl), (Nat.le_of_ble_eq_true rfl)⟩⟩ dX1_lay_1 (kcV fun wq12 hp => ?_)
  obtain ⟨hlyq12, hexq12⟩ := hp
  refine k_aload_n h_o 2 dX1_lay_4 rfl rfl ?_
  refine k_callV (As := []) (rest := []) h_o mX3_treesOfAll kq_2_15 (c_X3_treesOfAll hl0 ⟨((hexq12 q_o (by show ¬ (7 ≤ q_o ∧ q_o ≤ 14); omega)).trans hsp.1), ((hexq12 (q_o + 1) (by show ¬ (7 ≤ (q_o + 1) ∧ (q_o + 1) ≤ 14); omega)).trans hsp.2.1), ((hexq12 (q_o + 2) (by show ¬ (7 ≤ (q_o + 2) ∧ (q_o + 2) ≤ 14); omega)).trans hsp.2.2)⟩ hlt hN_o hc_o) q_o ((hexq12 q_o (by show ¬ (7 ≤ q_o ∧ q_o ≤ 14); omega)).trans hsp.1) rfl rfl rfl (Nat.le_of_ble_eq_true rfl) ⟨rfl, rfl, ⟨(Nat.le_of_ble_eq_true rfl), (Nat.le_of_ble_eq_true rfl)⟩, ⟨(Nat.le_of_ble_eq_true rfl), (Nat.le_of_ble_eq_true rfl)⟩⟩ dX1_lay_5 (kcI fun z5_o w5_o hp => ?_)
  obtain ⟨rfl, rfl⟩ := hp
  refine k_top (z' := ((m_TT g_o nr lt_o 10 0 (c_o - 1) : Nat) : Int)) (by rw [m_tr_s (by decide) (by omega), m_part_N (by decide), hT 10 0 (c_o - 1) (by decide) (by omega) (by omega) (by omega)]) ?_
  refine k_ifle h_o 25 (m_natrg m_TT_le) dX1_lay_8 (by decide) (fun h8_o => ?_) (fun h8_o => ?_)
  · refine k_iconst h_o dX1_lay_25 ?_
    refine k_istore_n (lv' := [(3, .int (iI 0)), (0, .ref (al 0)), (1, .ref ag), (2, .ref a_o)]) h_o dX1_lay_26 rfl (by decide) rfl ?_
    refine k_sub (lv' := [(0, .ref (al 0)), (1, .ref ag), (2, .ref a_o), (3, .int (iI 0))]) [1, 2, 3, 0] rfl ?_
    exact EXIT _ _ 0 _ hlyq12 hexq12 (by unfold m_lay; rw [if_neg (by omega)]) (by omega)
  · refine k_aload_n h_o 0 dX1_lay_11 rfl rfl ?_
    refine k_bipush h_o dX1_lay_12 (by decide) ?_
    refine k_iconst h_o dX1_lay_14 ?_
    refine k_aload_n h_o 2 dX1_lay_15 rfl rfl ?_
    refine k_get h_o q_o kf_X1_55 ((hexq12 q_o (by show ¬ (7 ≤ q_o ∧ q_o ≤ 14); omega)).trans hsp.1) rfl dX1_lay_16 ?_
    refine k_iconst h_o dX1_lay_19 ?_
    refine k_isub h_o dX1_lay_20 ?_
    refine k_iconst h_o dX1_lay_21 ?_
    refine k_callV (As := [.int (iI 10), .int (iI 0), .int (iI (c_o - 1)), .int (iI 0)]) (rest := []) h_o mX1_push kq_2_16 (c_X1_push hl0 ⟨hlyq12.1, hlyq12.2.1, hlyq12.2.2.1, hlyq12.2.2.2.1, hlyq12.2.2.2.2.1, hlyq12.2.2.2.2.2.1, hlyq12.2.2.2.2.2.2.1, hlyq12.2.2.2.2.2.2.2⟩ (by omega)) 7 hlyq12.1 rfl rfl rfl (Nat.le_of_ble_eq_true rfl) ⟨rfl, rfl, ⟨(Nat.le_of_ble_eq_true rfl), (Nat.le_of_ble_eq_true rfl)⟩, ⟨(Nat.le_of_ble_eq_true rfl), (Nat.le_of_ble_eq_true rfl)⟩⟩ dX1_lay_22 (kcV fun wq13 hp => ?_)
    obtain ⟨hlyq13, hexq13⟩ := hp
    refine k_iconst h_o dX1_lay_25 ?_
    refine k_istore_n (lv' := [(3, .int (iI 0)), (0, .ref (al 0)), (1, .ref ag), (2, .ref a_o)]) h_o dX1_lay_26 rfl (by decide) rfl ?_
    refine k_sub (lv' := [(0, .ref (al 0)), (1, .ref ag), (2, .ref a_o), (3, .int (iI 0))]) [1, 2, 3, 0] rfl ?_
    have hp0 : 0 < m_TT g_o nr lt_o 10 0 (c_o - 1) := by omega
    obtain ⟨p1, p2, p3, p4, p5, p6, p7⟩ := m_lay_sc hc_o hp0
    have b1 := m_run_cnt hwf 100 10 0 (c_o - 1) 0 (m_ow O_o) p1 p2 p3 p4 p5
    have z1_o : (m_ow O_o).1 = 0 := rfl
    have z2_o : (m_ow O_o).2.2.2.2.2 = 0 := rfl
    refine LOOP 100 10 0 (c_o - 1) 0 (m_ow O_o) _ 0 0 _ p1 (by omega) (kOi_ow hOi) p4 kIt.top hlyq13 (kEx.trans hexq12 hexq13) (fun sk3 w3_o y3 q1 q2 q3 q4 => ?_)
    exact EXIT _ sk3 y3 w3_o q2 q3 (by unfold m_lay; rw [if_pos hp0]) (by omega)
