set_option maxHeartbeats 4000000 in
set_option maxRecDepth 100000 in
theorem c_X6_limited {E_o : kE} {l_o : Launch} (hl0 : l_o.stackTraces = false) {w_o : kW} {x_o : Int} (hx : -2147483648 ≤ x_o ∧ x_o < 2147483648) : kM E_o l_o yX6_limited (.code yX6_limited cX6_limited 1 (some .int) :: kAL) { frames := 0, cells := 0, slots := 0, locals := 0 } 0 0 [.int (iI x_o)] w_o (pI (fun z_o w2_o => m_lim x_o = z_o ∧ w_o = w2_o)) := by
  refine kM_of hl0 (by decide +kernel) (Nat.le_of_ble_eq_true rfl) ?_
  intro X_o hXl h_o hr hin
  subst hXl
  show kG E_o X_o 1 0 0 w_o 0 [(0, .int (iI x_o))] []
  refine k_iload_n h_o 0 dX6_limited_0 rfl rfl ?_
  refine k_sipush h_o dX6_limited_1 (by decide) ?_
  refine k_icmp_le h_o 13 (by omega) (by decide) dX6_limited_4 (by decide) (fun h4_o => ?_) (fun h4_o => ?_)
  · refine k_iload_n h_o 0 dX6_limited_13 rfl rfl ?_
    exact k_iret h_o hr rfl (⟨_, rfl, (by unfold m_lim; rw [if_neg (by omega)]), rfl⟩) (by omega) (by omega) dX6_limited_14
  · refine k_sipush h_o dX6_limited_7 (by decide) ?_
    refine k_goto h_o 14 dX6_limited_10 (by decide) ?_
    exact k_iret h_o hr rfl (⟨_, rfl, (by unfold m_lim; rw [if_pos (by omega)]), rfl⟩) (by omega) (by omega) dX6_limited_14

set_option maxHeartbeats 4000000 in
set_option maxRecDepth 100000 in
theorem c_X6_spot {E_o : kE} {l_o : Launch} (hl0 : l_o.stackTraces = false) {w_o : kW} {x_o i_o j_o : Int} (hx : 10 ≤ x_o ∧ x_o < 15) (hi_o : 0 ≤ i_o ∧ i_o ≤ j_o) (hj : j_o < 10) : kM E_o l_o yX6_spot (.code yX6_spot cX6_spot 3 (some .int) :: kAL) { frames := 0, cells := 0, slots := 0, locals := 0 } 0 0 [.int (iI x_o), .int (iI i_o), .int (iI j_o)] w_o (pI (fun z_o w2_o => ((x_o - 10) * 10 + i_o) * 10 + j_o = z_o ∧ w_o = w2_o)) := by
  refine kM_of hl0 (by decide +kernel) (Nat.le_of_ble_eq_true rfl) ?_
  intro X_o hXl h_o hr hin
  subst hXl
  show kG E_o X_o 3 0 0 w_o 0 [(0, .int (iI x_o)), (1, .int (iI i_o)), (2, .int (iI j_o))] []
  refine k_iload_n h_o 0 dX6_spot_0 rfl rfl ?_
  refine k_bipush h_o dX6_spot_1 (by decide) ?_
  refine k_icmp_lt h_o 27 (by omega) (by decide) dX6_spot_3 (by decide) (fun h3_o => ?_) (fun h3_o => ?_)
  · exfalso; omega
  · refine k_iload_n h_o 0 dX6_spot_6 rfl rfl ?_
    refine k_bipush h_o dX6_spot_7 (by decide) ?_
    refine k_icmp_ge h_o 27 (by omega) (by decide) dX6_spot_9 (by decide) (fun h9_o => ?_) (fun h9_o => ?_)
    · exfalso; omega
    · refine k_iload_n h_o 1 dX6_spot_12 rfl rfl ?_
      refine k_iflt h_o 27 (by omega) dX6_spot_13 (by decide) (fun h13_o => ?_) (fun h13_o => ?_)
      · exfalso; omega
      · refine k_iload_n h_o 2 dX6_spot_16 rfl rfl ?_
        refine k_iload_n h_o 1 dX6_spot_17 rfl rfl ?_
        refine k_icmp_lt h_o 27 (by omega) (by omega) dX6_spot_18 (by decide) (fun h18_o => ?_) (fun h18_o => ?_)
        · exfalso; omega
        · refine k_iload_n h_o 2 dX6_spot_21 rfl rfl ?_
          refine k_bipush h_o dX6_spot_22 (by decide) ?_
          refine k_icmp_lt h_o 29 (by omega) (by decide) dX6_spot_24 (by decide) (fun h24_o => ?_) (fun h24_o => ?_)
          · refine k_iload_n h_o 0 dX6_spot_29 rfl rfl ?_
            refine k_bipush h_o dX6_spot_30 (by decide) ?_
            refine k_isub h_o dX6_spot_32 ?_
            refine k_bipush h_o dX6_spot_33 (by decide) ?_
            refine k_imul h_o dX6_spot_35 ?_
            refine k_iload_n h_o 1 dX6_spot_36 rfl rfl ?_
            refine k_iadd h_o dX6_spot_37 ?_
            refine k_bipush h_o dX6_spot_38 (by decide) ?_
            refine k_imul h_o dX6_spot_40 ?_
            refine k_iload_n h_o 2 dX6_spot_41 rfl rfl ?_
            refine k_iadd h_o dX6_spot_42 ?_
            exact k_iret h_o hr rfl (⟨_, rfl, rfl, rfl⟩) (by omega) (by omega) dX6_spot_43
          · exfalso; omega

set_option maxHeartbeats 4000000 in
set_option maxRecDepth 100000 in
theorem c_X0_liveRule {E_o : kE} {l_o : Launch} (hl0 : l_o.stackTraces = false) {w_o : kW} {ag ap nr : Nat} {ra : Nat → Nat} {g_o : Nat → Nat → Int} {x_o : Int} (hgr : kGr w_o ag ap nr ra g_o) (hwf : kWf g_o nr) (hx : -2147483648 ≤ x_o ∧ x_o < 2147483648) : kM E_o l_o yX0_liveRule (.code yX0_liveRule cX0_liveRule 3 (some (.object "Parserpark$Rule")) :: kAL) { frames := 0, cells := 0, slots := 0, locals := 0 } 0 0 [.ref ag, .int (iI x_o)] w_o (pQ (fun o_o w2_o => ((m_live g_o nr x_o ∧ o_o = some (ra x_o.toNat)) ∨ (¬ m_live g_o nr x_o ∧ o_o = none)) ∧ w_o = w2_o)) := by
  refine kM_of hl0 (by decide +kernel) (Nat.le_of_ble_eq_true rfl) ?_
  intro X_o hXl h_o hr hin
  subst hXl
  have hnr := hgr.2.2.2
  show kG E_o X_o 3 0 0 w_o 0 [(0, .ref ag), (1, .int (iI x_o))] []
  refine k_iload_n h_o 1 dX0_liveRule_0 rfl rfl ?_
  refine k_iflt h_o 13 (by omega) dX0_liveRule_1 (by decide) (fun h1_o => ?_) (fun h1_o => ?_)
  · refine k_null h_o dX0_liveRule_13 ?_
    exact k_aretN h_o hr (⟨none, rfl, Or.inr ⟨fun q_o => by obtain ⟨q1, q2, q3⟩ := q_o; omega, rfl⟩, rfl⟩) (by omega) (by omega) dX0_liveRule_14
  · refine k_iload_n h_o 1 dX0_liveRule_4 rfl rfl ?_
    refine k_aload_n h_o 0 dX0_liveRule_5 rfl rfl ?_
    refine k_get h_o 1 kf_X0_11 hgr.1 rfl dX0_liveRule_6 ?_
    refine k_alen h_o 2 hgr.2.1 rfl dX0_liveRule_9 ?_
    show kG E_o X_o 3 _ _ _ _ _ (.int (iI 12) :: _)
    refine k_icmp_lt h_o 15 (by omega) (by decide) dX0_liveRule_10 (by decide) (fun h10_o => ?_) (fun h10_o => ?_)
    · refine k_aload_n h_o 0 dX0_liveRule_15 rfl rfl ?_
      refine k_get h_o 1 kf_X0_11 hgr.1 rfl dX0_liveRule_16 ?_
      refine k_iload_n h_o 1 dX0_liveRule_19 rfl rfl ?_
      refine k_aald h_o 2 hgr.2.1 rfl (by omega) (by decide) dX0_liveRule_20 ?_
      by_cases hxn : x_o < (nr : Int)
      · refine k_topQ (a := ra x_o.toNat) (if_pos (by omega)) ?_
        have hg8 := (hwf x_o.toNat (by omega)).2.2.2.2
        refine k_astore_n (lv' := [(2, .ref (ra x_o.toNat)), (0, .ref ag), (1, .int (iI x_o))]) h_o dX0_liveRule_21 rfl (by decide) rfl ?_
        refine k_aload_n h_o 0 dX0_liveRule_22 rfl rfl ?_
        refine k_ifnull h_o dX0_liveRule_23 ?_
        refine k_aload_n h_o 0 dX0_liveRule_26 rfl rfl ?_
        refine k_get h_o (100 + x_o.toNat) kf_X0_21 (hgr.2.2.1 x_o.toNat (by omega)) rfl dX0_liveRule_27 ?_
        refine k_ifeq h_o 37 (by omega) dX0_liveRule_30 (by decide) (fun h30_o => ?_) (fun h30_o => ?_)
        · refine k_aload_n h_o 0 dX0_liveRule_37 rfl rfl ?_
          exact k_aret h_o hr (⟨some _, rfl, Or.inl ⟨⟨by omega, by omega, by omega⟩, rfl⟩, rfl⟩) (by omega) (by omega) dX0_liveRule_38
        · refine k_null h_o dX0_liveRule_33 ?_
          refine k_goto h_o 38 dX0_liveRule_34 (by decide) ?_
          exact k_aretN h_o hr (⟨none, rfl, Or.inr ⟨fun q_o => by obtain ⟨q1, q2, q3⟩ := q_o; omega, rfl⟩, rfl⟩) (by omega) (by omega) dX0_liveRule_38
      · refine k_topN (if_neg (by omega)) ?_
        refine k_astore_nN (lv' := [(2, .null), (0, .ref ag), (1, .int (iI x_o))]) h_o dX0_liveRule_21 rfl (by decide) rfl ?_
        refine k_aload_nN h_o 0 dX0_liveRule_22 rfl rfl ?_
        refine k_ifnullN h_o 33 dX0_liveRule_23 (by decide) ?_
        refine k_null h_o dX0_liveRule_33 ?_
        refine k_goto h_o 38 dX0_liveRule_34 (by decide) ?_
        exact k_aretN h_o hr (⟨none, rfl, Or.inr ⟨fun q_o => by obtain ⟨q1, q2, q3⟩ := q_o; omega, rfl⟩, rfl⟩) (by omega) (by omega) dX0_liveRule_38
    · refine k_null h_o dX0_liveRule_13 ?_
      exact k_aretN h_o hr (⟨none, rfl, Or.inr ⟨fun q_o => by obtain ⟨q1, q2, q3⟩ := q_o; omega, rfl⟩, rfl⟩) (by omega) (by omega) dX0_liveRule_14

set_option maxHeartbeats 4000000 in
set_option maxRecDepth 100000 in
theorem c_X3_treesByRule {E_o : kE} {l_o : Launch} (hl0 : l_o.stackTraces = false) {w_o : kW} {q_o a_o la na : Nat} {lt_o : Nat → Int} {N_o : Nat → Nat} {c_o : Int} {r_o b_o : Nat} {g_o : Nat → Nat → Int} {i_o j_o : Int} (hsp : kSp w_o q_o a_o la na lt_o N_o c_o) (hlt : kLt lt_o) (hN_o : ∀ x_o, N_o x_o ≤ 1000) (hru : w_o (100 + r_o) = some (b_o, kRl g_o r_o)) (hwr : m_wf g_o r_o) (hi_o : 0 ≤ i_o ∧ i_o ≤ j_o) (hj : j_o < 10) : kM E_o l_o yX3_treesByRule (.code yX3_treesByRule cX3_treesByRule 9 (some .int) :: kAL) { frames := 1, cells := 0, slots := 0, locals := 23 } 0 0 [.ref a_o, .ref b_o, .int (iI i_o), .int (iI j_o)] w_o (pI (fun z_o w2_o => ((m_cap (m_by N_o lt_o (g_o 2 r_o) (g_o 3 r_o) (g_o 4 r_o) i_o j_o) : Nat) : Int) = z_o ∧ w_o = w2_o)) := by
  refine kM_of hl0 (by decide +kernel) (Nat.le_of_ble_eq_true rfl) ?_
  intro X_o hXl h_o hr hin
  subst hXl
  obtain ⟨hw1, hw2, hw3⟩ := hwr
  show kG E_o X_o 9 0 0 w_o 0 [(0, .ref a_o), (1, .ref b_o), (2, .int (iI i_o)), (3, .int (iI j_o))] []
  refine k_iconst h_o dX3_treesByRule_0 ?_
  refine k_istore (lv' := [(4, .int (iI 0)), (0, .ref a_o), (1, .ref b_o), (2, .int (iI i_o)), (3, .int (iI j_o))]) h_o dX3_treesByRule_1 (by decide) rfl ?_
  have L18 : ∀ (mm : Nat) (k_o : Int) (s_o : Nat), (i_o ≤ k_o ∧ k_o ≤ j_o + 1) → (m_k0 (g_o 3 r_o) i_o j_o) ≤ k_o → (s_o ≤ 1000) → (s_o = m_cap (m_S (fun k_o => m_ik N_o lt_o (g_o 2 r_o) (g_o 3 r_o) (g_o 4 r_o) i_o j_o k_o) (m_k0 (g_o 3 r_o) i_o j_o) k_o)) → (j_o + 1 - k_o < (mm : Int)) → kG E_o X_o 9 0 0 w_o 18 [(0, .ref a_o), (1, .ref b_o), (2, .int (iI i_o)), (3, .int (iI j_o)), (4, .int (iI ((s_o : Nat) : Int))), (5, .int (iI k_o))] [] := by
    intro mm
    induction mm with
    | zero =>
      intro k_o s_o hk hk2 hs hs2 hm_o
      exfalso; omega
    | succ mm ih18 =>
      intro k_o s_o hk hk2 hs hs2 hm_o
      refine k_iload h_o 5 dX3_treesByRule_18 rfl ?_
      refine k_iload_n h_o 3 dX3_treesByRule_20 rfl rfl ?_
      refine k_icmp_gt h_o 125 (by omega) (by omega) dX3_treesByRule_21 (by decide) (fun h21_o => ?_) (fun h21_o => ?_)
      · refine k_iload h_o 4 dX3_treesByRule_125 rfl ?_
        exact k_iret h_o hr rfl (⟨_, rfl, (by rw [hs2]; unfold m_by; rw [show k_o = j_o + 1 by omega]), rfl⟩) (by omega) (by omega) dX3_treesByRule_127
      · refine k_aload_n h_o 0 dX3_treesByRule_24 rfl rfl ?_
        refine k_aload_n h_o 1 dX3_treesByRule_25 rfl rfl ?_
        refine k_get h_o (100 + r_o) kf_X3_42 hru rfl dX3_treesByRule_26 ?_
        refine k_iload_n h_o 2 dX3_treesByRule_29 rfl rfl ?_
        refine k_iload h_o 5 dX3_treesByRule_30 rfl ?_
        refine k_callV (As := [.int (iI (g_o 2 r_o)), .int (iI i_o), .int (iI k_o)]) (rest := []) h_o mX3_treesOf kq_1_177 (c_X3_treesOf hl0 hsp hlt hN_o (by omega) (by omega) (by omega)) q_o hsp.1 rfl rfl rfl (Nat.le_of_ble_eq_true rfl) ⟨rfl, rfl, ⟨(Nat.le_of_ble_eq_true rfl), (Nat.le_of_ble_eq_true rfl)⟩, ⟨(Nat.le_of_ble_eq_true rfl), (Nat.le_of_ble_eq_true rfl)⟩⟩ dX3_treesByRule_32 (kcI fun z32_o w32_o hp => ?_)
        obtain ⟨rfl, rfl⟩ := hp
        refine k_istore (lv' := [(6, .int (iI ((m_tr N_o lt_o (g_o 2 r_o) i_o k_o : Nat) : Int))), (0, .ref a_o), (1, .ref b_o), (2, .int (iI i_o)), (3, .int (iI j_o)), (4, .int (iI ((s_o : Nat) : Int))), (5, .int (iI k_o))]) h_o dX3_treesByRule_35 (by decide) rfl ?_
        have L53 : ∀ (mm : Nat) (l_o : Int) (s2 : Nat), (k_o ≤ l_o ∧ l_o ≤ j_o + 1) → (m_l0 (g_o 4 r_o) j_o k_o) ≤ l_o → (s2 ≤ 1000) → (s2 = m_cap (m_S (fun k_o => m_ik N_o lt_o (g_o 2 r_o) (g_o 3 r_o) (g_o 4 r_o) i_o j_o k_o) (m_k0 (g_o 3 r_o) i_o j_o) k_o + m_S (fun l_o => m_in N_o lt_o (g_o 2 r_o) (g_o 3 r_o) (g_o 4 r_o) i_o j_o k_o l_o) (m_l0 (g_o 4 r_o) j_o k_o) l_o)) → (j_o + 1 - l_o < (mm : Int)) → kG E_o X_o 9 0 0 w_o 53 [(0, .ref a_o), (1, .ref b_o), (2, .int (iI i_o)), (3, .int (iI j_o)), (4, .int (iI ((s2 : Nat) : Int))), (5, .int (iI k_o)), (6, .int (iI ((m_tr N_o lt_o (g_o 2 r_o) i_o k_o : Nat) : Int))), (7, .int (iI l_o))] [] := by
          intro mm
          induction mm with
          | zero =>
            intro l_o s2 hl hl2 hs3 hs4 hm_o
            exfalso; omega
          | succ mm ih53 =>
            intro l_o s2 hl hl2 hs3 hs4 hm_o
            refine k_iload h_o 6 dX3_treesByRule_53 rfl ?_
            refine k_ifle h_o 119 (m_natrg (m_tr_le hN_o)) dX3_treesByRule_55 (by decide) (fun h55_o => ?_) (fun h55_o => ?_)
            · have hfin : s2 = m_cap (m_S (fun k_o => m_ik N_o lt_o (g_o 2 r_o) (g_o 3 r_o) (g_o 4 r_o) i_o j_o k_o) (m_k0 (g_o 3 r_o) i_o j_o) (k_o + 1)) := by
                rw [m_S_succ hk2, hs4]
                congr 2
                unfold m_ik
                by_cases hz : 0 < m_tr N_o lt_o (g_o 2 r_o) i_o k_o
                · congr 1; omega
                · have h0_o : ∀ x_o, m_in N_o lt_o (g_o 2 r_o) (g_o 3 r_o) (g_o 4 r_o) i_o j_o k_o x_o = 0 := fun x_o => by unfold m_in; rw [show m_tr N_o lt_o (g_o 2 r_o) i_o k_o = 0 by omega, Nat.zero_mul, Nat.zero_mul]
                  rw [m_S_zero (fun x_o _ _ => h0_o x_o), m_S_zero (fun x_o _ _ => h0_o x_o)]
              refine k_iinc (lv' := [(5, .int (iI (k_o + 1))), (0, .ref a_o), (1, .ref b_o), (2, .int (iI i_o)), (3, .int (iI j_o)), (4, .int (iI ((s2 : Nat) : Int))), (6, .int (iI ((m_tr N_o lt_o (g_o 2 r_o) i_o k_o : Nat) : Int))), (7, .int (iI l_o))]) h_o 5 dX3_treesByRule_119 rfl (by decide) rfl ?_
              refine k_goto h_o 18 dX3_treesByRule_122 (by decide) ?_
              refine k_sub (lv' := [(0, .ref a_o), (1, .ref b_o), (2, .int (iI i_o)), (3, .int (iI j_o)), (4, .int (iI ((s2 : Nat) : Int))), (5, .int (iI (k_o + 1)))]) [1, 2, 3, 4, 5, 0] rfl ?_
              exact ih18 (k_o + 1) s2 (by omega) (by omega) (by first | exact hs3 | omega) hfin (by omega)
            · refine k_iload h_o 7 dX3_treesByRule_58 rfl ?_
              refine k_iload_n h_o 3 dX3_treesByRule_60 rfl rfl ?_
              refine k_icmp_gt h_o 119 (by omega) (by omega) dX3_treesByRule_61 (by decide) (fun h61_o => ?_) (fun h61_o => ?_)
              · have hfin : s2 = m_cap (m_S (fun k_o => m_ik N_o lt_o (g_o 2 r_o) (g_o 3 r_o) (g_o 4 r_o) i_o j_o k_o) (m_k0 (g_o 3 r_o) i_o j_o) (k_o + 1)) := by
                  rw [m_S_succ hk2, hs4]
                  congr 2
                  unfold m_ik
                  by_cases hz : 0 < m_tr N_o lt_o (g_o 2 r_o) i_o k_o
                  · congr 1; omega
                  · have h0_o : ∀ x_o, m_in N_o lt_o (g_o 2 r_o) (g_o 3 r_o) (g_o 4 r_o) i_o j_o k_o x_o = 0 := fun x_o => by unfold m_in; rw [show m_tr N_o lt_o (g_o 2 r_o) i_o k_o = 0 by omega, Nat.zero_mul, Nat.zero_mul]
                    rw [m_S_zero (fun x_o _ _ => h0_o x_o), m_S_zero (fun x_o _ _ => h0_o x_o)]
                refine k_iinc (lv' := [(5, .int (iI (k_o + 1))), (0, .ref a_o), (1, .ref b_o), (2, .int (iI i_o)), (3, .int (iI j_o)), (4, .int (iI ((s2 : Nat) : Int))), (6, .int (iI ((m_tr N_o lt_o (g_o 2 r_o) i_o k_o : Nat) : Int))), (7, .int (iI l_o))]) h_o 5 dX3_treesByRule_119 rfl (by decide) rfl ?_
                refine k_goto h_o 18 dX3_treesByRule_122 (by decide) ?_
                refine k_sub (lv' := [(0, .ref a_o), (1, .ref b_o), (2, .int (iI i_o)), (3, .int (iI j_o)), (4, .int (iI ((s2 : Nat) : Int))), (5, .int (iI (k_o + 1)))]) [1, 2, 3, 4, 5, 0] rfl ?_
                exact ih18 (k_o + 1) s2 (by omega) (by omega) (by first | exact hs3 | omega) hfin (by omega)
              · refine k_iload h_o 6 dX3_treesByRule_64 rfl ?_
                refine k_aload_n h_o 0 dX3_treesByRule_66 rfl rfl ?_
                refine k_aload_n h_o 1 dX3_treesByRule_67 rfl rfl ?_
                refine k_get h_o (100 + r_o) kf_X3_51 hru rfl dX3_treesByRule_68 ?_
                refine k_iload h_o 5 dX3_treesByRule_71 rfl ?_
                refine k_iconst h_o dX3_treesByRule_73 ?_
                refine k_iadd h_o dX3_treesByRule_74 ?_
                refine k_iload h_o 7 dX3_treesByRule_75 rfl ?_
                refine k_callV (As := [.int (iI (g_o 3 r_o)), .int (iI (k_o + 1)), .int (iI l_o)]) (rest := [.int (iI ((m_tr N_o lt_o (g_o 2 r_o) i_o k_o : Nat) : Int))]) h_o mX3_treesOf kq_1_177 (c_X3_treesOf hl0 hsp hlt hN_o (by omega) (by omega) (by omega)) q_o hsp.1 rfl rfl rfl (Nat.le_of_ble_eq_true rfl) ⟨rfl, rfl, ⟨(Nat.le_of_ble_eq_true rfl), (Nat.le_of_ble_eq_true rfl)⟩, ⟨(Nat.le_of_ble_eq_true rfl), (Nat.le_of_ble_eq_true rfl)⟩⟩ dX3_treesByRule_77 (kcI fun z77_o w77_o hp => ?_)
                obtain ⟨rfl, rfl⟩ := hp
                refine k_imul h_o dX3_treesByRule_80 ?_
                refine k_callSN (As := [.int (iI (((m_tr N_o lt_o (g_o 2 r_o) i_o k_o : Nat) : Int) * ((m_tr N_o lt_o (g_o 3 r_o) (k_o + 1) l_o : Nat) : Int)))]) (rest := []) h_o mX6_limited kq_2_0 (c_X6_limited hl0 (m_mul_rg (m_tr_le hN_o) (m_tr_le hN_o))) rfl rfl (Nat.le_of_ble_eq_true rfl) ⟨rfl, rfl, ⟨(Nat.le_of_ble_eq_true rfl), (Nat.le_of_ble_eq_true rfl)⟩, ⟨(Nat.le_of_ble_eq_true rfl), (Nat.le_of_ble_eq_true rfl)⟩⟩ dX3_treesByRule_81 (kcI fun z81_o w81_o hp => ?_)
                obtain ⟨rfl, rfl⟩ := hp
                refine k_top (z' := ((m_cap (m_tr N_o lt_o (g_o 2 r_o) i_o k_o * m_tr N_o lt_o (g_o 3 r_o) (k_o + 1) l_o) : Nat) : Int)) (by rw [← Int.natCast_mul, m_lim_cap]) ?_
                refine k_istore (lv' := [(8, .int (iI ((m_cap (m_tr N_o lt_o (g_o 2 r_o) i_o k_o * m_tr N_o lt_o (g_o 3 r_o) (k_o + 1) l_o) : Nat) : Int))), (0, .ref a_o), (1, .ref b_o), (2, .int (iI i_o)), (3, .int (iI j_o)), (4, .int (iI ((s2 : Nat) : Int))), (5, .int (iI k_o)), (6, .int (iI ((m_tr N_o lt_o (g_o 2 r_o) i_o k_o : Nat) : Int))), (7, .int (iI l_o))]) h_o dX3_treesByRule_84 (by decide) rfl ?_
                refine k_iload h_o 5 dX3_treesByRule_86 rfl ?_
                refine k_iload h_o 0 dX3_treesByRule_88 rfl ?_
                refine k_aload_n h_o 1 dX3_treesByRule_90 rfl rfl ?_
                refine k_aload_n h_o 2 dX3_treesByRule_91 rfl rfl ?_
                refine k_get h_o (100 + r_o) kf_X3_54 hru rfl dX3_treesByRule_92 ?_
                refine k_iload h_o 8 dX3_treesByRule_95 rfl ?_
                refine k_iconst h_o dX3_treesByRule_97 ?_
                refine k_iadd h_o dX3_treesByRule_98 ?_
                refine k_iload_n h_o 4 dX3_treesByRule_99 rfl rfl ?_
                refine k_callV (As := [.int (iI (g_o 4 r_o)), .int (iI (l_o + 1)), .int (iI j_o)]) (rest := [.int (iI ((m_cap (m_tr N_o lt_o (g_o 2 r_o) i_o k_o * m_tr N_o lt_o (g_o 3 r_o) (k_o + 1) l_o) : Nat) : Int)), .int (iI ((s2 : Nat) : Int))]) h_o mX3_treesOf kq_1_177 (c_X3_treesOf hl0 hsp hlt hN_o (by omega) (by omega) (by omega)) q_o hsp.1 rfl rfl rfl (Nat.le_of_ble_eq_true rfl) ⟨rfl, rfl, ⟨(Nat.le_of_ble_eq_true rfl), (Nat.le_of_ble_eq_true rfl)⟩, ⟨(Nat.le_of_ble_eq_true rfl), (Nat.le_of_ble_eq_true rfl)⟩⟩ dX3_treesByRule_100 (kcI fun z100_o w100_o hp => ?_)
                obtain ⟨rfl, rfl⟩ := hp
                refine k_imul h_o dX3_treesByRule_103 ?_
                refine k_callSN (As := [.int (iI (((m_cap (m_tr N_o lt_o (g_o 2 r_o) i_o k_o * m_tr N_o lt_o (g_o 3 r_o) (k_o + 1) l_o) : Nat) : Int) * ((m_tr N_o lt_o (g_o 4 r_o) (l_o + 1) j_o : Nat) : Int)))]) (rest := [.int (iI ((s2 : Nat) : Int))]) h_o mX6_limited kq_2_0 (c_X6_limited hl0 (m_mul_rg (m_cap_le _) (m_tr_le hN_o))) rfl rfl (Nat.le_of_ble_eq_true rfl) ⟨rfl, rfl, ⟨(Nat.le_of_ble_eq_true rfl), (Nat.le_of_ble_eq_true rfl)⟩, ⟨(Nat.le_of_ble_eq_true rfl), (Nat.le_of_ble_eq_true rfl)⟩⟩ dX3_treesByRule_104 (kcI fun z104_o w104_o hp => ?_)
                obtain ⟨rfl, rfl⟩ := hp
                refine k_top (z' := ((m_cap (m_in N_o lt_o (g_o 2 r_o) (g_o 3 r_o) (g_o 4 r_o) i_o j_o k_o l_o) : Nat) : Int)) (by rw [← Int.natCast_mul, m_lim_cap, m_cap_mull]; rfl) ?_
                refine k_iadd h_o dX3_treesByRule_107 ?_
                refine k_callSN (As := [.int (iI (((s2 : Nat) : Int) + ((m_cap (m_in N_o lt_o (g_o 2 r_o) (g_o 3 r_o) (g_o 4 r_o) i_o j_o k_o l_o) : Nat) : Int)))]) (rest := []) h_o mX6_limited kq_2_0 (c_X6_limited hl0 (m_add_rg hs3 (m_cap_le _))) rfl rfl (Nat.le_of_ble_eq_true rfl) ⟨rfl, rfl, ⟨(Nat.le_of_ble_eq_true rfl), (Nat.le_of_ble_eq_true rfl)⟩, ⟨(Nat.le_of_ble_eq_true rfl), (Nat.le_of_ble_eq_true rfl)⟩⟩ dX3_treesByRule_108 (kcI fun z108_o w108_o hp => ?_)
                obtain ⟨rfl, rfl⟩ := hp
                refine k_top (z' := ((m_cap (s2 + m_in N_o lt_o (g_o 2 r_o) (g_o 3 r_o) (g_o 4 r_o) i_o j_o k_o l_o) : Nat) : Int)) (by rw [← Int.natCast_add, m_lim_cap, m_cap_addr]) ?_
                refine k_istore (lv' := [(4, .int (iI ((m_cap (s2 + m_in N_o lt_o (g_o 2 r_o) (g_o 3 r_o) (g_o 4 r_o) i_o j_o k_o l_o) : Nat) : Int))), (8, .int (iI ((m_cap (m_tr N_o lt_o (g_o 2 r_o) i_o k_o * m_tr N_o lt_o (g_o 3 r_o) (k_o + 1) l_o) : Nat) : Int))), (0, .ref a_o), (1, .ref b_o), (2, .int (iI i_o)), (3, .int (iI j_o)), (5, .int (iI k_o)), (6, .int (iI ((m_tr N_o lt_o (g_o 2 r_o) i_o k_o : Nat) : Int))), (7, .int (iI l_o))]) h_o dX3_treesByRule_111 (by decide) rfl ?_
                refine k_iinc (lv' := [(7, .int (iI (l_o + 1))), (4, .int (iI ((m_cap (s2 + m_in N_o lt_o (g_o 2 r_o) (g_o 3 r_o) (g_o 4 r_o) i_o j_o k_o l_o) : Nat) : Int))), (8, .int (iI ((m_cap (m_tr N_o lt_o (g_o 2 r_o) i_o k_o * m_tr N_o lt_o (g_o 3 r_o) (k_o + 1) l_o) : Nat) : Int))), (0, .ref a_o), (1, .ref b_o), (2, .int (iI i_o)), (3, .int (iI j_o)), (5, .int (iI k_o)), (6, .int (iI ((m_tr N_o lt_o (g_o 2 r_o) i_o k_o : Nat) : Int)))]) h_o 8 dX3_treesByRule_113 rfl (by decide) rfl ?_
                refine k_goto h_o 53 dX3_treesByRule_116 (by decide) ?_
                refine k_sub (lv' := [(0, .ref a_o), (1, .ref b_o), (2, .int (iI i_o)), (3, .int (iI j_o)), (4, .int (iI ((m_cap (s2 + m_in N_o lt_o (g_o 2 r_o) (g_o 3 r_o) (g_o 4 r_o) i_o j_o k_o l_o) : Nat) : Int))), (5, .int (iI k_o)), (6, .int (iI ((m_tr N_o lt_o (g_o 2 r_o) i_o k_o : Nat) : Int))), (7, .int (iI (l_o + 1)))]) [3, 4, 5, 6, 1, 7, 8, 0] rfl ?_
                exact ih53 (l_o + 1) (m_cap (s2 + m_in N_o lt_o (g_o 2 r_o) (g_o 3 r_o) (g_o 4 r_o) i_o j_o k_o l_o)) (by omega) (by omega) (m_cap_le _) (by rw [m_S_succ hl2, hs4, m_cap_addl, Nat.add_assoc]) (by omega)
        refine k_aload_n h_o 2 dX3_treesByRule_37 rfl rfl ?_
        refine k_get h_o (100 + r_o) kf_X3_54 hru rfl dX3_treesByRule_38 ?_
        refine k_iconst h_o dX3_treesByRule_41 ?_
        refine k_icmp_ne h_o 49 (by omega) (by decide) dX3_treesByRule_42 (by decide) (fun h42_o => ?_) (fun h42_o => ?_)
        · refine k_iload h_o 6 dX3_treesByRule_49 rfl ?_
          refine k_istore (lv' := [(7, .int (iI k_o)), (6, .int (iI ((m_tr N_o lt_o (g_o 2 r_o) i_o k_o : Nat) : Int))), (0, .ref a_o), (1, .ref b_o), (2, .int (iI i_o)), (3, .int (iI j_o)), (4, .int (iI ((s_o : Nat) : Int))), (5, .int (iI k_o))]) h_o dX3_treesByRule_51 (by decide) rfl ?_
          refine k_sub (lv' := [(0, .ref a_o), (1, .ref b_o), (2, .int (iI i_o)), (3, .int (iI j_o)), (4, .int (iI ((s_o : Nat) : Int))), (5, .int (iI k_o)), (6, .int (iI ((m_tr N_o lt_o (g_o 2 r_o) i_o k_o : Nat) : Int))), (7, .int (iI k_o))]) [2, 3, 4, 5, 6, 7, 1, 0] rfl ?_
          exact L53 ((j_o + 1 - k_o : Int).toNat + 1) k_o s_o (by omega) (by unfold m_l0; first | (rw [if_pos (by omega)]; omega) | (rw [if_neg (by omega)]; omega)) hs (by rw [hs2]; unfold m_l0; first | (rw [if_pos (by omega), m_S_self (f := fun l_o => m_in N_o lt_o (g_o 2 r_o) (g_o 3 r_o) (g_o 4 r_o) i_o j_o k_o l_o) (by omega)]; rfl) | (rw [if_neg (by omega), m_S_self (f := fun l_o => m_in N_o lt_o (g_o 2 r_o) (g_o 3 r_o) (g_o 4 r_o) i_o j_o k_o l_o) (by omega)]; rfl)) (by omega)
        · refine k_iload_n h_o 4 dX3_treesByRule_45 rfl rfl ?_
          refine k_goto h_o 51 dX3_treesByRule_46 (by decide) ?_
          refine k_istore (lv' := [(7, .int (iI j_o)), (6, .int (iI ((m_tr N_o lt_o (g_o 2 r_o) i_o k_o : Nat) : Int))), (0, .ref a_o), (1, .ref b_o), (2, .int (iI i_o)), (3, .int (iI j_o)), (4, .int (iI ((s_o : Nat) : Int))), (5, .int (iI k_o))]) h_o dX3_treesByRule_51 (by decide) rfl ?_
          refine k_sub (lv' := [(0, .ref a_o), (1, .ref b_o), (2, .int (iI i_o)), (3, .int (iI j_o)), (4, .int (iI ((s_o : Nat) : Int))), (5, .int (iI k_o)), (6, .int (iI ((m_tr N_o lt_o (g_o 2 r_o) i_o k_o : Nat) : Int))), (7, .int (iI j_o))]) [2, 3, 4, 5, 6, 7, 1, 0] rfl ?_
          exact L53 ((j_o + 1 - j_o : Int).toNat + 1) j_o s_o (by omega) (by unfold m_l0; first | (rw [if_pos (by omega)]; omega) | (rw [if_neg (by omega)]; omega)) hs (by rw [hs2]; unfold m_l0; first | (rw [if_pos (by omega), m_S_self (f := fun l_o => m_in N_o lt_o (g_o 2 r_o) (g_o 3 r_o) (g_o 4 r_o) i_o j_o k_o l_o) (by omega)]; rfl) | (rw [if_neg (by omega), m_S_self (f := fun l_o => m_in N_o lt_o (g_o 2 r_o) (g_o 3 r_o) (g_o 4 r_o) i_o j_o k_o l_o) (by omega)]; rfl)) (by omega)
  refine k_aload_n h_o 2 dX3_treesByRule_3 rfl rfl ?_
  refine k_get h_o (100 + r_o) kf_X3_51 hru rfl dX3_treesByRule_4 ?_
  refine k_iconst h_o dX3_treesByRule_7 ?_
  refine k_icmp_ne h_o 15 (by omega) (by decide) dX3_treesByRule_8 (by decide) (fun h8_o => ?_) (fun h8_o => ?_)
  · refine k_iload_n h_o 3 dX3_treesByRule_15 rfl rfl ?_
    refine k_istore (lv' := [(5, .int (iI i_o)), (4, .int (iI 0)), (0, .ref a_o), (1, .ref b_o), (2, .int (iI i_o)), (3, .int (iI j_o))]) h_o dX3_treesByRule_16 (by decide) rfl ?_
    refine k_sub (lv' := [(0, .ref a_o), (1, .ref b_o), (2, .int (iI i_o)), (3, .int (iI j_o)), (4, .int (iI 0)), (5, .int (iI i_o))]) [2, 3, 4, 5, 1, 0] rfl ?_
    exact L18 ((j_o + 1 - i_o : Int).toNat + 1) i_o 0 (by omega) (by unfold m_k0; first | (rw [if_pos (by omega)]; omega) | (rw [if_neg (by omega)]; omega)) (by omega) (by unfold m_k0; first | (rw [if_pos (by omega), m_S_self (by omega)]; rfl) | (rw [if_neg (by omega), m_S_self (by omega)]; rfl)) (by omega)
  · refine k_iload_n h_o 4 dX3_treesByRule_11 rfl rfl ?_
    refine k_goto h_o 16 dX3_treesByRule_12 (by decide) ?_
    refine k_istore (lv' := [(5, .int (iI j_o)), (4, .int (iI 0)), (0, .ref a_o), (1, .ref b_o), (2, .int (iI i_o)), (3, .int (iI j_o))]) h_o dX3_treesByRule_16 (by decide) rfl ?_
    refine k_sub (lv' := [(0, .ref a_o), (1, .ref b_o), (2, .int (iI i_o)), (3, .int (iI j_o)), (4, .int (iI 0)), (5, .int (iI j_o))]) [2, 3, 4, 5, 1, 0] rfl ?_
    exact L18 ((j_o + 1 - j_o : Int).toNat + 1) j_o 0 (by omega) (by unfold m_k0; first | (rw [if_pos (by omega)]; omega) | (rw [if_neg (by omega)]; omega)) (by omega) (by unfold m_k0; first | (rw [if_pos (by omega), m_S_self (by omega)]; rfl) | (rw [if_neg (by omega), m_S_self (by omega)]; rfl)) (by omega)

set_option maxHeartbeats 4000000 in
set_option maxRecDepth 100000 in
theorem c_X3_splitOf {E_o : kE} {l_o : Launch} (hl0 : l_o.stackTraces = false) {w_o : kW} {q_o a_o la na : Nat} {lt_o : Nat → Int} {N_o : Nat → Nat} {c_o : Int} {r_o b_o : Nat} {g_o : Nat → Nat → Int} {i_o j_o : Int} (hsp : kSp w_o q_o a_o la na lt_o N_o c_o) (hlt : kLt lt_o) (hN_o : ∀ x_o, N_o x_o ≤ 1000) (hru : w_o (100 + r_o) = some (b_o, kRl g_o r_o)) (hwr : m_wf g_o r_o) (hi_o : 0 ≤ i_o ∧ i_o ≤ j_o) (hj : j_o < 10) : kM E_o l_o yX3_splitOf (.code yX3_splitOf cX3_splitOf 7 (some .int) :: kAL) { frames := 1, cells := 0, slots := 0, locals := 23 } 0 0 [.ref a_o, .ref b_o, .int (iI i_o), .int (iI j_o)] w_o (pI (fun z_o w2_o => (if 0 < m_wy (m_Cn N_o) lt_o (g_o 2 r_o) (g_o 3 r_o) (g_o 4 r_o) i_o j_o then m_sk (m_Cn N_o) lt_o (g_o 2 r_o) (g_o 3 r_o) (g_o 4 r_o) i_o j_o * 10 + m_sl (m_Cn N_o) lt_o (g_o 2 r_o) (g_o 3 r_o) (g_o 4 r_o) i_o j_o else -1) = z_o ∧ w_o = w2_o)) := by
  refine kM_of hl0 (by decide +kernel) (Nat.le_of_ble_eq_true rfl) ?_
  intro X_o hXl h_o hr hin
  subst hXl
  obtain ⟨hw1, hw2, hw3⟩ := hwr
  have hw4 : (g_o 3 r_o = -1 ∧ g_o 4 r_o = -1) ∨ (m_isS (g_o 3 r_o) ∧ (g_o 4 r_o = -1 ∨ m_isS (g_o 4 r_o))) := by omega
  show kG E_o X_o 7 0 0 w_o 0 [(0, .ref a_o), (1, .ref b_o), (2, .int (iI i_o)), (3, .int (iI j_o))] []
  have L15 : ∀ (mm : Nat) (k_o : Int), (i_o ≤ k_o ∧ k_o ≤ j_o + 1) → (m_k0 (g_o 3 r_o) i_o j_o) ≤ k_o → (∀ k2 l2 : Int, (m_k0 (g_o 3 r_o) i_o j_o) ≤ k2 → k2 < k_o → m_l0 (g_o 4 r_o) j_o k2 ≤ l2 → l2 ≤ j_o → m_in N_o lt_o (g_o 2 r_o) (g_o 3 r_o) (g_o 4 r_o) i_o j_o k2 l2 = 0) → (j_o + 1 - k_o < (mm : Int)) → kG E_o X_o 7 0 0 w_o 15 [(0, .ref a_o), (1, .ref b_o), (2, .int (iI i_o)), (3, .int (iI j_o)), (4, .int (iI k_o))] [] := by
    intro mm
    induction mm with
    | zero =>
      intro k_o hk hk2 hno hm_o
      exfalso; omega
    | succ mm ih15 =>
      intro k_o hk hk2 hno hm_o
      refine k_iload h_o 4 dX3_splitOf_15 rfl ?_
      refine k_iload_n h_o 3 dX3_splitOf_17 rfl rfl ?_
      refine k_icmp_gt h_o 123 (by omega) (by omega) dX3_splitOf_18 (by decide) (fun h18_o => ?_) (fun h18_o => ?_)
      · refine k_iconst h_o dX3_splitOf_123 ?_
        exact k_iret h_o hr rfl (⟨_, rfl, (by rw [if_neg (by rw [m_sp_none (N := N_o) (lt := lt_o) hw2 hw4 hi_o.2 (fun k2 l2 q1 q2 q3 q4 => hno k2 l2 q1 (by omega) q3 q4)]; omega)]), rfl⟩) (by omega) (by omega) dX3_splitOf_124
      · have J42 : ∀ (y_o : Int), (y_o = 1 ∧ 0 < m_tr N_o lt_o (g_o 2 r_o) i_o k_o) ∨ (y_o = 0 ∧ m_tr N_o lt_o (g_o 2 r_o) i_o k_o = 0) → kG E_o X_o 7 0 0 w_o 42 [(0, .ref a_o), (1, .ref b_o), (2, .int (iI i_o)), (3, .int (iI j_o)), (4, .int (iI k_o)), (5, .int (iI y_o))] [] := by
          intro y_o hy
          have L58 : ∀ (mm : Nat) (l_o : Int), (k_o ≤ l_o ∧ l_o ≤ j_o + 1) → (m_l0 (g_o 4 r_o) j_o k_o) ≤ l_o → (∀ l2 : Int, m_l0 (g_o 4 r_o) j_o k_o ≤ l2 → l2 < l_o → m_in N_o lt_o (g_o 2 r_o) (g_o 3 r_o) (g_o 4 r_o) i_o j_o k_o l2 = 0) → (j_o + 1 - l_o < (mm : Int)) → kG E_o X_o 7 0 0 w_o 58 [(0, .ref a_o), (1, .ref b_o), (2, .int (iI i_o)), (3, .int (iI j_o)), (4, .int (iI k_o)), (5, .int (iI y_o)), (6, .int (iI l_o))] [] := by
            intro mm
            induction mm with
            | zero =>
              intro l_o hl hl2 hnl hm_o
              exfalso; omega
            | succ mm ih58 =>
              intro l_o hl hl2 hnl hm_o
              refine k_iload h_o 5 dX3_splitOf_58 rfl ?_
              refine k_ifeq h_o 117 (by omega) dX3_splitOf_60 (by decide) (fun h60_o => ?_) (fun h60_o => ?_)
              · have hrow : ∀ l2 : Int, m_l0 (g_o 4 r_o) j_o k_o ≤ l2 → l2 ≤ j_o → m_in N_o lt_o (g_o 2 r_o) (g_o 3 r_o) (g_o 4 r_o) i_o j_o k_o l2 = 0 := by
                  intro l2 q1 q2
                  rcases hy with ⟨hy1, hy2⟩ | ⟨hy1, hy2⟩
                  · exact hnl l2 q1 (by omega)
                  · unfold m_in; rw [hy2, Nat.zero_mul, Nat.zero_mul]
                refine k_iinc (lv' := [(4, .int (iI (k_o + 1))), (0, .ref a_o), (1, .ref b_o), (2, .int (iI i_o)), (3, .int (iI j_o)), (5, .int (iI y_o)), (6, .int (iI l_o))]) h_o 4 dX3_splitOf_117 rfl (by decide) rfl ?_
                refine k_goto h_o 15 dX3_splitOf_120 (by decide) ?_
                refine k_sub (lv' := [(0, .ref a_o), (1, .ref b_o), (2, .int (iI i_o)), (3, .int (iI j_o)), (4, .int (iI (k_o + 1)))]) [1, 2, 3, 4, 0] rfl ?_
                exact ih15 (k_o + 1) (by omega) (by omega) (fun k2 l2 q1 q2 q3 q4 => if e_o : k2 < k_o then hno k2 l2 q1 e_o q3 q4 else (show k2 = k_o by omega) ▸ hrow l2 ((show k2 = k_o by omega) ▸ q3) q4) (by omega)
              · refine k_iload h_o 6 dX3_splitOf_63 rfl ?_
                refine k_iload_n h_o 3 dX3_splitOf_65 rfl rfl ?_
                refine k_icmp_gt h_o 117 (by omega) (by omega) dX3_splitOf_66 (by decide) (fun h66_o => ?_) (fun h66_o => ?_)
                · have hrow : ∀ l2 : Int, m_l0 (g_o 4 r_o) j_o k_o ≤ l2 → l2 ≤ j_o → m_in N_o lt_o (g_o 2 r_o) (g_o 3 r_o) (g_o 4 r_o) i_o j_o k_o l2 = 0 := by
                    intro l2 q1 q2
                    rcases hy with ⟨hy1, hy2⟩ | ⟨hy1, hy2⟩
                    · exact hnl l2 q1 (by omega)
                    · unfold m_in; rw [hy2, Nat.zero_mul, Nat.zero_mul]
                  refine k_iinc (lv' := [(4, .int (iI (k_o + 1))), (0, .ref a_o), (1, .ref b_o), (2, .int (iI i_o)), (3, .int (iI j_o)), (5, .int (iI y_o)), (6, .int (iI l_o))]) h_o 4 dX3_splitOf_117 rfl (by decide) rfl ?_
                  refine k_goto h_o 15 dX3_splitOf_120 (by decide) ?_
                  refine k_sub (lv' := [(0, .ref a_o), (1, .ref b_o), (2, .int (iI i_o)), (3, .int (iI j_o)), (4, .int (iI (k_o + 1)))]) [1, 2, 3, 4, 0] rfl ?_
                  exact ih15 (k_o + 1) (by omega) (by omega) (fun k2 l2 q1 q2 q3 q4 => if e_o : k2 < k_o then hno k2 l2 q1 e_o q3 q4 else (show k2 = k_o by omega) ▸ hrow l2 ((show k2 = k_o by omega) ▸ q3) q4) (by omega)
                · refine k_aload_n h_o 0 dX3_splitOf_69 rfl rfl ?_
                  refine k_aload_n h_o 1 dX3_splitOf_70 rfl rfl ?_
                  refine k_get h_o (100 + r_o) kf_X3_51 hru rfl dX3_splitOf_71 ?_
                  refine k_iload h_o 4 dX3_splitOf_74 rfl ?_
                  refine k_iconst h_o dX3_splitOf_76 ?_
                  refine k_iadd h_o dX3_splitOf_77 ?_
                  refine k_iload h_o 6 dX3_splitOf_78 rfl ?_
                  refine k_callV (As := [.int (iI (g_o 3 r_o)), .int (iI (k_o + 1)), .int (iI l_o)]) (rest := []) h_o mX3_treesOf kq_1_177 (c_X3_treesOf hl0 hsp hlt hN_o (by omega) (by omega) (by omega)) q_o hsp.1 rfl rfl rfl (Nat.le_of_ble_eq_true rfl) ⟨rfl, rfl, ⟨(Nat.le_of_ble_eq_true rfl), (Nat.le_of_ble_eq_true rfl)⟩, ⟨(Nat.le_of_ble_eq_true rfl), (Nat.le_of_ble_eq_true rfl)⟩⟩ dX3_splitOf_80 (kcI fun z80_o w80_o hp => ?_)
                  obtain ⟨rfl, rfl⟩ := hp
                  refine k_ifle h_o 111 (m_natrg (m_tr_le hN_o)) dX3_splitOf_83 (by decide) (fun h83_o => ?_) (fun h83_o => ?_)
                  · have hzl : m_in N_o lt_o (g_o 2 r_o) (g_o 3 r_o) (g_o 4 r_o) i_o j_o k_o l_o = 0 := by unfold m_in; first | (rw [show m_tr N_o lt_o (g_o 3 r_o) (k_o + 1) l_o = 0 by omega, Nat.mul_zero, Nat.zero_mul]) | (rw [show m_tr N_o lt_o (g_o 4 r_o) (l_o + 1) j_o = 0 by omega, Nat.mul_zero])
                    refine k_iinc (lv' := [(6, .int (iI (l_o + 1))), (0, .ref a_o), (1, .ref b_o), (2, .int (iI i_o)), (3, .int (iI j_o)), (4, .int (iI k_o)), (5, .int (iI y_o))]) h_o 6 dX3_splitOf_111 rfl (by decide) rfl ?_
                    refine k_goto h_o 58 dX3_splitOf_114 (by decide) ?_
                    refine k_sub (lv' := [(0, .ref a_o), (1, .ref b_o), (2, .int (iI i_o)), (3, .int (iI j_o)), (4, .int (iI k_o)), (5, .int (iI y_o)), (6, .int (iI (l_o + 1)))]) [1, 2, 3, 4, 5, 6, 0] rfl ?_
                    exact ih58 (l_o + 1) (by omega) (by omega) (fun l2 q1 q2 => if e_o : l2 < l_o then hnl l2 q1 e_o else (show l2 = l_o by omega) ▸ hzl) (by omega)
                  · refine k_aload_n h_o 0 dX3_splitOf_86 rfl rfl ?_
                    refine k_aload_n h_o 1 dX3_splitOf_87 rfl rfl ?_
                    refine k_get h_o (100 + r_o) kf_X3_54 hru rfl dX3_splitOf_88 ?_
                    refine k_iload h_o 6 dX3_splitOf_91 rfl ?_
                    refine k_iconst h_o dX3_splitOf_93 ?_
                    refine k_iadd h_o dX3_splitOf_94 ?_
                    refine k_iload_n h_o 3 dX3_splitOf_95 rfl rfl ?_
                    refine k_callV (As := [.int (iI (g_o 4 r_o)), .int (iI (l_o + 1)), .int (iI j_o)]) (rest := []) h_o mX3_treesOf kq_1_177 (c_X3_treesOf hl0 hsp hlt hN_o (by omega) (by omega) (by omega)) q_o hsp.1 rfl rfl rfl (Nat.le_of_ble_eq_true rfl) ⟨rfl, rfl, ⟨(Nat.le_of_ble_eq_true rfl), (Nat.le_of_ble_eq_true rfl)⟩, ⟨(Nat.le_of_ble_eq_true rfl), (Nat.le_of_ble_eq_true rfl)⟩⟩ dX3_splitOf_96 (kcI fun z96_o w96_o hp => ?_)
                    obtain ⟨rfl, rfl⟩ := hp
                    refine k_ifle h_o 111 (m_natrg (m_tr_le hN_o)) dX3_splitOf_99 (by decide) (fun h99_o => ?_) (fun h99_o => ?_)
                    · have hzl : m_in N_o lt_o (g_o 2 r_o) (g_o 3 r_o) (g_o 4 r_o) i_o j_o k_o l_o = 0 := by unfold m_in; first | (rw [show m_tr N_o lt_o (g_o 3 r_o) (k_o + 1) l_o = 0 by omega, Nat.mul_zero, Nat.zero_mul]) | (rw [show m_tr N_o lt_o (g_o 4 r_o) (l_o + 1) j_o = 0 by omega, Nat.mul_zero])
                      refine k_iinc (lv' := [(6, .int (iI (l_o + 1))), (0, .ref a_o), (1, .ref b_o), (2, .int (iI i_o)), (3, .int (iI j_o)), (4, .int (iI k_o)), (5, .int (iI y_o))]) h_o 6 dX3_splitOf_111 rfl (by decide) rfl ?_
                      refine k_goto h_o 58 dX3_splitOf_114 (by decide) ?_
                      refine k_sub (lv' := [(0, .ref a_o), (1, .ref b_o), (2, .int (iI i_o)), (3, .int (iI j_o)), (4, .int (iI k_o)), (5, .int (iI y_o)), (6, .int (iI (l_o + 1)))]) [1, 2, 3, 4, 5, 6, 0] rfl ?_
                      exact ih58 (l_o + 1) (by omega) (by omega) (fun l2 q1 q2 => if e_o : l2 < l_o then hnl l2 q1 e_o else (show l2 = l_o by omega) ▸ hzl) (by omega)
                    · refine k_iload h_o 4 dX3_splitOf_102 rfl ?_
                      refine k_bipush h_o dX3_splitOf_104 (by decide) ?_
                      refine k_imul h_o dX3_splitOf_106 ?_
                      refine k_iload h_o 6 dX3_splitOf_107 rfl ?_
                      refine k_iadd h_o dX3_splitOf_109 ?_
                      exact k_iret h_o hr rfl (⟨_, rfl, (by obtain ⟨e1, e2, e3⟩ := m_sp_eq (N := N_o) (lt := lt_o) hw2 hw4 hi_o.2 ⟨hk2, by omega, hl2, by omega, m_in_pos.mpr ⟨by omega, by omega, by omega⟩, hno, hnl⟩; rw [if_pos e1, ← e2, ← e3]), rfl⟩) (by omega) (by omega) dX3_splitOf_110
          refine k_aload_n h_o 1 dX3_splitOf_42 rfl rfl ?_
          refine k_get h_o (100 + r_o) kf_X3_54 hru rfl dX3_splitOf_43 ?_
          refine k_iconst h_o dX3_splitOf_46 ?_
          refine k_icmp_ne h_o 54 (by omega) (by decide) dX3_splitOf_47 (by decide) (fun h47_o => ?_) (fun h47_o => ?_)
          · refine k_iload h_o 4 dX3_splitOf_54 rfl ?_
            refine k_istore (lv' := [(6, .int (iI k_o)), (0, .ref a_o), (1, .ref b_o), (2, .int (iI i_o)), (3, .int (iI j_o)), (4, .int (iI k_o)), (5, .int (iI y_o))]) h_o dX3_splitOf_56 (by decide) rfl ?_
            refine k_sub (lv' := [(0, .ref a_o), (1, .ref b_o), (2, .int (iI i_o)), (3, .int (iI j_o)), (4, .int (iI k_o)), (5, .int (iI y_o)), (6, .int (iI k_o))]) [1, 2, 3, 4, 5, 6, 0] rfl ?_
            exact L58 ((j_o + 1 - k_o : Int).toNat + 1) k_o (by omega) (by unfold m_l0; first | (rw [if_pos (by omega)]; omega) | (rw [if_neg (by omega)]; omega)) (fun l2 q1 q2 => by exfalso; unfold m_l0 at q1; first | (rw [if_pos (by omega)] at q1; omega) | (rw [if_neg (by omega)] at q1; omega)) (by omega)
          · refine k_iload_n h_o 3 dX3_splitOf_50 rfl rfl ?_
            refine k_goto h_o 56 dX3_splitOf_51 (by decide) ?_
            refine k_istore (lv' := [(6, .int (iI j_o)), (0, .ref a_o), (1, .ref b_o), (2, .int (iI i_o)), (3, .int (iI j_o)), (4, .int (iI k_o)), (5, .int (iI y_o))]) h_o dX3_splitOf_56 (by decide) rfl ?_
            refine k_sub (lv' := [(0, .ref a_o), (1, .ref b_o), (2, .int (iI i_o)), (3, .int (iI j_o)), (4, .int (iI k_o)), (5, .int (iI y_o)), (6, .int (iI j_o))]) [1, 2, 3, 4, 5, 6, 0] rfl ?_
            exact L58 ((j_o + 1 - j_o : Int).toNat + 1) j_o (by omega) (by unfold m_l0; first | (rw [if_pos (by omega)]; omega) | (rw [if_neg (by omega)]; omega)) (fun l2 q1 q2 => by exfalso; unfold m_l0 at q1; first | (rw [if_pos (by omega)] at q1; omega) | (rw [if_neg (by omega)] at q1; omega)) (by omega)
        refine k_aload_n h_o 0 dX3_splitOf_21 rfl rfl ?_
        refine k_aload_n h_o 1 dX3_splitOf_22 rfl rfl ?_
        refine k_get h_o (100 + r_o) kf_X3_42 hru rfl dX3_splitOf_23 ?_
        refine k_iload_n h_o 2 dX3_splitOf_26 rfl rfl ?_
        refine k_iload h_o 4 dX3_splitOf_27 rfl ?_
        refine k_callV (As := [.int (iI (g_o 2 r_o)), .int (iI i_o), .int (iI k_o)]) (rest := []) h_o mX3_treesOf kq_1_177 (c_X3_treesOf hl0 hsp hlt hN_o (by omega) (by omega) (by omega)) q_o hsp.1 rfl rfl rfl (Nat.le_of_ble_eq_true rfl) ⟨rfl, rfl, ⟨(Nat.le_of_ble_eq_true rfl), (Nat.le_of_ble_eq_true rfl)⟩, ⟨(Nat.le_of_ble_eq_true rfl), (Nat.le_of_ble_eq_true rfl)⟩⟩ dX3_splitOf_29 (kcI fun z29_o w29_o hp => ?_)
        obtain ⟨rfl, rfl⟩ := hp
        refine k_ifle h_o 39 (m_natrg (m_tr_le hN_o)) dX3_splitOf_32 (by decide) (fun h32_o => ?_) (fun h32_o => ?_)
        · refine k_iconst h_o dX3_splitOf_39 ?_
          refine k_istore (lv' := [(5, .int (iI 0)), (0, .ref a_o), (1, .ref b_o), (2, .int (iI i_o)), (3, .int (iI j_o)), (4, .int (iI k_o))]) h_o dX3_splitOf_40 (by decide) rfl ?_
          refine k_sub (lv' := [(0, .ref a_o), (1, .ref b_o), (2, .int (iI i_o)), (3, .int (iI j_o)), (4, .int (iI k_o)), (5, .int (iI 0))]) [1, 2, 3, 4, 5, 0] rfl ?_
          exact J42 0 (by omega)
        · refine k_iconst h_o dX3_splitOf_35 ?_
          refine k_goto h_o 40 dX3_splitOf_36 (by decide) ?_
          refine k_istore (lv' := [(5, .int (iI 1)), (0, .ref a_o), (1, .ref b_o), (2, .int (iI i_o)), (3, .int (iI j_o)), (4, .int (iI k_o))]) h_o dX3_splitOf_40 (by decide) rfl ?_
          refine k_sub (lv' := [(0, .ref a_o), (1, .ref b_o), (2, .int (iI i_o)), (3, .int (iI j_o)), (4, .int (iI k_o)), (5, .int (iI 1))]) [1, 2, 3, 4, 5, 0] rfl ?_
          exact J42 1 (by omega)
  refine k_aload_n h_o 1 dX3_splitOf_0 rfl rfl ?_
  refine k_get h_o (100 + r_o) kf_X3_51 hru rfl dX3_splitOf_1 ?_
  refine k_iconst h_o dX3_splitOf_4 ?_
  refine k_icmp_ne h_o 12 (by omega) (by decide) dX3_splitOf_5 (by decide) (fun h5_o => ?_) (fun h5_o => ?_)
  · refine k_iload_n h_o 2 dX3_splitOf_12 rfl rfl ?_
    refine k_istore (lv' := [(4, .int (iI i_o)), (0, .ref a_o), (1, .ref b_o), (2, .int (iI i_o)), (3, .int (iI j_o))]) h_o dX3_splitOf_13 (by decide) rfl ?_
    refine k_sub (lv' := [(0, .ref a_o), (1, .ref b_o), (2, .int (iI i_o)), (3, .int (iI j_o)), (4, .int (iI i_o))]) [1, 2, 3, 4, 0] rfl ?_
    exact L15 ((j_o + 1 - i_o : Int).toNat + 1) i_o (by omega) (by unfold m_k0; first | (rw [if_pos (by omega)]; omega) | (rw [if_neg (by omega)]; omega)) (fun k2 l2 q1 q2 _ _ => by exfalso; unfold m_k0 at q1; first | (rw [if_pos (by omega)] at q1; omega) | (rw [if_neg (by omega)] at q1; omega)) (by omega)
  · refine k_iload_n h_o 3 dX3_splitOf_8 rfl rfl ?_
    refine k_goto h_o 13 dX3_splitOf_9 (by decide) ?_
    refine k_istore (lv' := [(4, .int (iI j_o)), (0, .ref a_o), (1, .ref b_o), (2, .int (iI i_o)), (3, .int (iI j_o))]) h_o dX3_splitOf_13 (by decide) rfl ?_
    refine k_sub (lv' := [(0, .ref a_o), (1, .ref b_o), (2, .int (iI i_o)), (3, .int (iI j_o)), (4, .int (iI j_o))]) [1, 2, 3, 4, 0] rfl ?_
    exact L15 ((j_o + 1 - j_o : Int).toNat + 1) j_o (by omega) (by unfold m_k0; first | (rw [if_pos (by omega)]; omega) | (rw [if_neg (by omega)]; omega)) (fun k2 l2 q1 q2 _ _ => by exfalso; unfold m_k0 at q1; first | (rw [if_pos (by omega)] at q1; omega) | (rw [if_neg (by omega)] at q1; omega)) (by omega)
