set_option maxHeartbeats 4000000 in
set_option maxRecDepth 100000 in
theorem c_X7_walksText {E_o : kE} {l_o : Launch} (hl0 : l_o.stackTraces = false) {w_o : kW} {bd : Nat → Nat} {nr : Nat} {g_o : Nat → Nat → Int} {T_o : Nat} {cs ams ltA acA mnA : Nat → Int} {rel fnd sz : Int} {rx : Nat → Int} {N_o : Nat → Nat} {tm : Int} {tr sh sg : Nat → Int} {sm dp th : Int} {lts acs : Nat → Nat → Int} {x_o : Int} (hmd : kMd w_o bd nr g_o T_o cs ams ltA acA mnA rel fnd sz rx N_o tm tr sh sg sm dp th) (hI : kMi nr g_o T_o lts cs acs ams ltA acA mnA) (hrx : kLt rx) (hN_o : ∀ x_o, N_o x_o ≤ 1000) (hx : 0 ≤ x_o ∧ x_o < ((T_o : Nat) : Int)) : kM E_o l_o yX7_walksText (.code yX7_walksText cX7_walksText 4 (some .int) :: kAL) { frames := 300, cells := 0, slots := 0, locals := 6000 } 0 0 [.ref (bd 25), .int (iI x_o)] w_o (pI (fun z_o w2_o => ((m_TT g_o nr (lts x_o.toNat) 10 0 (cs x_o.toNat - 1) : Nat) : Int) = z_o ∧ ∃ (rx2 : Nat → Int) (N2 : Nat → Nat) (tm2 : Int) (tr2 sh2 sg2 : Nat → Int) (sm2 dp2 : Int), (kMd w2_o bd nr g_o T_o cs ams ltA acA mnA rel fnd ((cs x_o.toNat)) rx2 N2 tm2 tr2 sh2 sg2 sm2 dp2 th) ∧ kLt rx2 ∧ (∀ z_o, N2 z_o ≤ 1000) ∧ kSw (m_lay g_o nr (lts x_o.toNat) (cs x_o.toNat) kO0) (lts x_o.toNat) (cs x_o.toNat) tm2 tr2 sh2 sg2 sm2 dp2 ∧ kEx w_o w2_o kMk)) := by
  refine kM_of hl0 (by decide +kernel) (Nat.le_of_ble_eq_true rfl) ?_
  intro X_o hXl h_o hr hin
  subst hXl
  obtain ⟨hwf, hnr, hT6, hmn, hg0, htx⟩ := id hI
  obtain ⟨hlx, hcx, hax, hacx, hltx, hacAx⟩ := htx x_o.toNat (by omega)
  show kG E_o X_o 4 0 0 w_o 0 [(0, .ref (bd 25)), (1, .int (iI x_o))] []
  refine k_aload_n h_o 0 dX7_walksText_0 rfl rfl ?_
  refine k_iload_n h_o 1 dX7_walksText_1 rfl rfl ?_
  refine k_callV (As := [.int (iI x_o)]) (rest := []) h_o mX7_laysText kq_5_24 (c_X7_laysText hl0 hmd hI hrx hN_o (by omega)) 19 hmd.1 rfl rfl rfl (Nat.le_of_ble_eq_true rfl) ⟨rfl, rfl, ⟨(Nat.le_of_ble_eq_true rfl), (Nat.le_of_ble_eq_true rfl)⟩, ⟨(Nat.le_of_ble_eq_true rfl), (Nat.le_of_ble_eq_true rfl)⟩⟩ dX7_walksText_2 (kcI fun z2_o wq17 hp => ?_)
  obtain ⟨rfl, rxq17, Nq17, hmdq17, hrxq17, hrowq17, hNq17, hTrq17, hexq17⟩ := hp
  refine k_istore_n (lv' := [(2, .int (iI ((m_TT g_o nr (lts x_o.toNat) 10 0 (cs x_o.toNat - 1) : Nat) : Int))), (0, .ref (bd 25)), (1, .int (iI x_o))]) h_o dX7_walksText_5 rfl (by decide) rfl ?_
  refine k_aload_n h_o 1 dX7_walksText_6 rfl rfl ?_
  refine k_iconst h_o dX7_walksText_7 ?_
  refine k_put (fs' := [.ref (bd 0), .ref (bd 1), .ref (bd 2), .ref (bd 3), .ref (bd 4), .ref (bd 5), .ref (bd 6), .int (iI ((nr : Nat) : Int)), .ref (bd 8), .ref (bd 9), .ref (bd 10), .ref (bd 11), .int (iI ((T_o : Nat) : Int)), .long (lI fnd), .int (iI rel), .ref (bd 15), .int (iI (cs x_o.toNat)), .ref (bd 17), .ref (bd 18), .int (iI 0), .ref (bd 20), .ref (bd 21), .int (iI sm), .int (iI dp), .int (iI th)]) h_o 19 kf_X7_115 kt_X7_19 hmdq17.1 rfl rfl (Nat.le_of_ble_eq_true rfl) rfl dX7_walksText_8 ?_
  refine k_aload_n h_o 1 dX7_walksText_11 rfl rfl ?_
  refine k_iconst h_o dX7_walksText_12 ?_
  refine k_put (fs' := [.ref (bd 0), .ref (bd 1), .ref (bd 2), .ref (bd 3), .ref (bd 4), .ref (bd 5), .ref (bd 6), .int (iI ((nr : Nat) : Int)), .ref (bd 8), .ref (bd 9), .ref (bd 10), .ref (bd 11), .int (iI ((T_o : Nat) : Int)), .long (lI fnd), .int (iI rel), .ref (bd 15), .int (iI (cs x_o.toNat)), .ref (bd 17), .ref (bd 18), .int (iI 0), .ref (bd 20), .ref (bd 21), .int (iI 0), .int (iI dp), .int (iI th)]) h_o 19 kf_X7_109 kt_X7_22 kset_eq rfl rfl (Nat.le_of_ble_eq_true rfl) rfl dX7_walksText_13 ?_
  refine k_aload_n h_o 1 dX7_walksText_16 rfl rfl ?_
  refine k_iconst h_o dX7_walksText_17 ?_
  refine k_put (fs' := [.ref (bd 0), .ref (bd 1), .ref (bd 2), .ref (bd 3), .ref (bd 4), .ref (bd 5), .ref (bd 6), .int (iI ((nr : Nat) : Int)), .ref (bd 8), .ref (bd 9), .ref (bd 10), .ref (bd 11), .int (iI ((T_o : Nat) : Int)), .long (lI fnd), .int (iI rel), .ref (bd 15), .int (iI (cs x_o.toNat)), .ref (bd 17), .ref (bd 18), .int (iI 0), .ref (bd 20), .ref (bd 21), .int (iI 0), .int (iI 0), .int (iI th)]) h_o 19 kf_X7_118 kt_X7_23 kset_eq rfl rfl (Nat.le_of_ble_eq_true rfl) rfl dX7_walksText_18 ?_
  refine k_iconst h_o dX7_walksText_21 ?_
  refine k_istore_n (lv' := [(3, .int (iI 0)), (2, .int (iI ((m_TT g_o nr (lts x_o.toNat) 10 0 (cs x_o.toNat - 1) : Nat) : Int))), (0, .ref (bd 25)), (1, .int (iI x_o))]) h_o dX7_walksText_22 rfl (by decide) rfl ?_
  have L23 : ∀ (mm : Nat) (p_o : Int) (w8_o : kW), (0 ≤ p_o ∧ p_o ≤ 10) → (kMd w8_o bd nr g_o T_o cs ams ltA acA mnA rel fnd (cs x_o.toNat) rxq17 Nq17 0 tr (m_fl sh 0 p_o) sg 0 0 th) → (kEx w_o w8_o kMk) → (10 - p_o < (mm : Int)) → kG E_o X_o 4 0 0 w8_o 23 [(0, .ref (bd 25)), (1, .int (iI x_o)), (2, .int (iI ((m_TT g_o nr (lts x_o.toNat) 10 0 (cs x_o.toNat - 1) : Nat) : Int))), (3, .int (iI p_o))] [] := by
    intro mm
    induction mm with
    | zero =>
      intro p_o w8_o hp hmd8 hx8 hm_o
      exfalso; omega
    | succ mm ih23 =>
      intro p_o w8_o hp hmd8 hx8 hm_o
      refine k_iload_n h_o 3 dX7_walksText_23 rfl rfl ?_
      refine k_bipush h_o dX7_walksText_24 (by decide) ?_
      refine k_icmp_ge h_o 42 (by omega) (by decide) dX7_walksText_26 (by decide) (fun h26_o => ?_) (fun h26_o => ?_)
      · refine k_iload_n h_o 2 dX7_walksText_42 rfl rfl ?_
        refine k_ifle h_o 61 (m_natrg m_TT_le) dX7_walksText_43 (by decide) (fun h43_o => ?_) (fun h43_o => ?_)
        · refine k_iload_n h_o 2 dX7_walksText_61 rfl rfl ?_
          exact k_iret h_o hr rfl (⟨_, rfl, rfl, rxq17, Nq17, 0, tr, m_fl sh 0 p_o, sg, 0, 0, hmd8, hrxq17, hNq17, kSw.none hcx (by omega) (fun q_o hq => if_pos (by omega)), hx8⟩) (by omega) (by omega) dX7_walksText_62
        · refine k_aload_n h_o 0 dX7_walksText_46 rfl rfl ?_
          refine k_bipush h_o dX7_walksText_47 (by decide) ?_
          refine k_iconst h_o dX7_walksText_49 ?_
          refine k_aload_n h_o 0 dX7_walksText_50 rfl rfl ?_
          refine k_get h_o 19 kf_X7_93 hmd8.1 rfl dX7_walksText_51 ?_
          refine k_iconst h_o dX7_walksText_54 ?_
          refine k_isub h_o dX7_walksText_55 ?_
          refine k_iconst h_o dX7_walksText_56 ?_
          refine k_top (z' := (0 : Int) + 1) (by decide) ?_
          refine k_iconst h_o dX7_walksText_57 ?_
          have hp10 : p_o = 10 := by omega
          have hpos : 0 < m_TT g_o nr rxq17 10 0 (cs x_o.toNat - 1) := by rw [m_TT_row (row' := lts x_o.toNat) (by omega) (fun q_o q1 q2 => hrowq17 q_o.toNat (by omega))]; omega
          obtain ⟨l1, l2, l3, l4, l5, l6, _⟩ := m_lay_sc (lt := rxq17) hcx hpos
          have hkr : (kWk w8_o bd nr g_o T_o cs ams ltA acA mnA rel fnd (cs x_o.toNat) rxq17 Nq17 0 tr (m_fl sh 0 p_o) sg 0 0 th (m_ow kO0) 10 0 (cs x_o.toNat - 1) 0 0 (cs x_o.toNat) (99 + 1)) := ⟨hmd8, hrxq17, hNq17, hwf, hnr, hmn, hTrq17, hcx, l1, ⟨by omega, l2, by omega⟩, l4, l5, ⟨Int.le_refl 0, by omega⟩, (by show (0 : Int) + m_M 10 0 (cs x_o.toNat - 1) ≤ 95; omega), kOi_0, kWR_0, (by decide), (fun q_o _ _ => m_fl_z)⟩
          refine k_callV (As := [.int (iI 10), .int (iI 0), .int (iI ((cs x_o.toNat) - 1)), .int (iI ((0 : Int) + 1)), .int (iI 0)]) (rest := []) h_o mX7_walks kq_5_87 (c_X7_walks hl0 (c_X7_sees hl0 99) hkr (by decide)) 19 hmd8.1 rfl rfl rfl (Nat.le_of_ble_eq_true rfl) ⟨rfl, rfl, ⟨(Nat.le_of_ble_eq_true rfl), (Nat.le_of_ble_eq_true rfl)⟩, ⟨(Nat.le_of_ble_eq_true rfl), (Nat.le_of_ble_eq_true rfl)⟩⟩ dX7_walksText_58 (kcV fun wq18 hp => ?_)
          obtain ⟨tmq18, trq18, shq18, sgq18, smq18, hmdq18, hwrq18, hexq18⟩ := hp
          refine k_iload_n h_o 2 dX7_walksText_61 rfl rfl ?_
          exact k_iret h_o hr rfl (⟨_, rfl, rfl, rxq17, Nq17, tmq18, trq18, shq18, sgq18, smq18, _, hmdq18, hrxq17, hNq17, kSw.run hwf hnr hcx hrowq17 hpos hwrq18, (fun x_o hx => ((hexq18 x_o hx).trans (hx8 x_o hx)))⟩) (by omega) (by omega) dX7_walksText_62
      · refine k_aload_n h_o 0 dX7_walksText_29 rfl rfl ?_
        refine k_get h_o 19 kf_X7_53 hmd8.1 rfl dX7_walksText_30 ?_
        refine k_iload_n h_o 3 dX7_walksText_33 rfl rfl ?_
        refine k_iconst h_o dX7_walksText_34 ?_
        refine k_iast h_o 40 hmd8.2.2.2.2.2.2.2.2.2.2.2.2.2.2.2.1 (by omega) (by decide) dX7_walksText_35 ?_
        refine k_iinc (lv' := [(3, .int (iI (p_o + 1))), (0, .ref (bd 25)), (1, .int (iI x_o)), (2, .int (iI ((m_TT g_o nr (lts x_o.toNat) 10 0 (cs x_o.toNat - 1) : Nat) : Int)))]) h_o 3 dX7_walksText_36 rfl (by decide) rfl ?_
        refine k_goto h_o 23 dX7_walksText_39 (by decide) ?_
        refine k_sub (lv' := [(0, .ref (bd 25)), (1, .int (iI x_o)), (2, .int (iI ((m_TT g_o nr (lts x_o.toNat) 10 0 (cs x_o.toNat - 1) : Nat) : Int))), (3, .int (iI (p_o + 1)))]) [1, 2, 3, 0] rfl ?_
        exact ih23 (p_o + 1) (kset w8_o 40 (bd 20) (ai 10 (kup (m_fl sh 0 p_o) p_o.toNat 0))) (by omega) (by rw [← m_fl_s hp.1]; exact ⟨((kset_ne (by decide)).trans hmd8.1), ((kset_ne (by decide)).trans hmd8.2.1), ((kset_ne (by decide)).trans hmd8.2.2.1), ((kset_ne (by decide)).trans hmd8.2.2.2.1), ((kset_ne (by decide)).trans hmd8.2.2.2.2.1), ((kset_ne (by decide)).trans hmd8.2.2.2.2.2.1), ((kset_ne (by decide)).trans hmd8.2.2.2.2.2.2.1), ((kset_ne (by decide)).trans hmd8.2.2.2.2.2.2.2.1), ((kset_ne (by decide)).trans hmd8.2.2.2.2.2.2.2.2.1), ((kset_ne (by decide)).trans hmd8.2.2.2.2.2.2.2.2.2.1), ((kset_ne (by decide)).trans hmd8.2.2.2.2.2.2.2.2.2.2.1), ((kset_ne (by decide)).trans hmd8.2.2.2.2.2.2.2.2.2.2.2.1), ((kset_ne (by decide)).trans hmd8.2.2.2.2.2.2.2.2.2.2.2.2.1), ((kset_ne (by decide)).trans hmd8.2.2.2.2.2.2.2.2.2.2.2.2.2.1), ((kset_ne (by decide)).trans hmd8.2.2.2.2.2.2.2.2.2.2.2.2.2.2.1), kset_eq, ((kset_ne (by decide)).trans hmd8.2.2.2.2.2.2.2.2.2.2.2.2.2.2.2.2)⟩) (fun x_o hx => ((kset_ne (by omega)).trans (hx8 x_o hx))) (by omega)
  refine k_sub (lv' := [(0, .ref (bd 25)), (1, .int (iI x_o)), (2, .int (iI ((m_TT g_o nr (lts x_o.toNat) 10 0 (cs x_o.toNat - 1) : Nat) : Int))), (3, .int (iI 0))]) [2, 3, 1, 0] rfl ?_
  exact L23 ((10 - 0 : Int).toNat + 1) 0 (kset (kset (kset wq17 19 (bd 25) (ob 9 [.ref (bd 0), .ref (bd 1), .ref (bd 2), .ref (bd 3), .ref (bd 4), .ref (bd 5), .ref (bd 6), .int (iI ((nr : Nat) : Int)), .ref (bd 8), .ref (bd 9), .ref (bd 10), .ref (bd 11), .int (iI ((T_o : Nat) : Int)), .long (lI fnd), .int (iI rel), .ref (bd 15), .int (iI (cs x_o.toNat)), .ref (bd 17), .ref (bd 18), .int (iI 0), .ref (bd 20), .ref (bd 21), .int (iI sm), .int (iI dp), .int (iI th)])) 19 (bd 25) (ob 9 [.ref (bd 0), .ref (bd 1), .ref (bd 2), .ref (bd 3), .ref (bd 4), .ref (bd 5), .ref (bd 6), .int (iI ((nr : Nat) : Int)), .ref (bd 8), .ref (bd 9), .ref (bd 10), .ref (bd 11), .int (iI ((T_o : Nat) : Int)), .long (lI fnd), .int (iI rel), .ref (bd 15), .int (iI (cs x_o.toNat)), .ref (bd 17), .ref (bd 18), .int (iI 0), .ref (bd 20), .ref (bd 21), .int (iI 0), .int (iI dp), .int (iI th)])) 19 (bd 25) (ob 9 [.ref (bd 0), .ref (bd 1), .ref (bd 2), .ref (bd 3), .ref (bd 4), .ref (bd 5), .ref (bd 6), .int (iI ((nr : Nat) : Int)), .ref (bd 8), .ref (bd 9), .ref (bd 10), .ref (bd 11), .int (iI ((T_o : Nat) : Int)), .long (lI fnd), .int (iI rel), .ref (bd 15), .int (iI (cs x_o.toNat)), .ref (bd 17), .ref (bd 18), .int (iI 0), .ref (bd 20), .ref (bd 21), .int (iI 0), .int (iI 0), .int (iI th)])) (by omega) (by rw [m_fl_0]; exact ⟨kset_eq, ((kset_ne (by decide)).trans ((kset_ne (by decide)).trans ((kset_ne (by decide)).trans hmdq17.2.1))), ((kset_ne (by decide)).trans ((kset_ne (by decide)).trans ((kset_ne (by decide)).trans hmdq17.2.2.1))), ((kset_ne (by decide)).trans ((kset_ne (by decide)).trans ((kset_ne (by decide)).trans hmdq17.2.2.2.1))), ((kset_ne (by decide)).trans ((kset_ne (by decide)).trans ((kset_ne (by decide)).trans hmdq17.2.2.2.2.1))), ((kset_ne (by decide)).trans ((kset_ne (by decide)).trans ((kset_ne (by decide)).trans hmdq17.2.2.2.2.2.1))), ((kset_ne (by decide)).trans ((kset_ne (by decide)).trans ((kset_ne (by decide)).trans hmdq17.2.2.2.2.2.2.1))), ((kset_ne (by decide)).trans ((kset_ne (by decide)).trans ((kset_ne (by decide)).trans hmdq17.2.2.2.2.2.2.2.1))), ((kset_ne (by decide)).trans ((kset_ne (by decide)).trans ((kset_ne (by decide)).trans hmdq17.2.2.2.2.2.2.2.2.1))), ((kset_ne (by decide)).trans ((kset_ne (by decide)).trans ((kset_ne (by decide)).trans hmdq17.2.2.2.2.2.2.2.2.2.1))), ((kset_ne (by decide)).trans ((kset_ne (by decide)).trans ((kset_ne (by decide)).trans hmdq17.2.2.2.2.2.2.2.2.2.2.1))), ((kset_ne (by decide)).trans ((kset_ne (by decide)).trans ((kset_ne (by decide)).trans hmdq17.2.2.2.2.2.2.2.2.2.2.2.1))), ((kset_ne (by decide)).trans ((kset_ne (by decide)).trans ((kset_ne (by decide)).trans hmdq17.2.2.2.2.2.2.2.2.2.2.2.2.1))), ((kset_ne (by decide)).trans ((kset_ne (by decide)).trans ((kset_ne (by decide)).trans hmdq17.2.2.2.2.2.2.2.2.2.2.2.2.2.1))), ((kset_ne (by decide)).trans ((kset_ne (by decide)).trans ((kset_ne (by decide)).trans hmdq17.2.2.2.2.2.2.2.2.2.2.2.2.2.2.1))), ((kset_ne (by decide)).trans ((kset_ne (by decide)).trans ((kset_ne (by decide)).trans hmdq17.2.2.2.2.2.2.2.2.2.2.2.2.2.2.2.1))), ((kset_ne (by decide)).trans ((kset_ne (by decide)).trans ((kset_ne (by decide)).trans hmdq17.2.2.2.2.2.2.2.2.2.2.2.2.2.2.2.2)))⟩) (fun x_o hx => ((kset_ne (by omega)).trans ((kset_ne (by omega)).trans ((kset_ne (by omega)).trans (hexq17 x_o hx))))) (by omega)

set_option maxHeartbeats 4000000 in
set_option maxRecDepth 100000 in
theorem c_X7_touched {E_o : kE} {l_o : Launch} (hl0 : l_o.stackTraces = false) {w_o : kW} {bd : Nat → Nat} {nr : Nat} {g_o : Nat → Nat → Int} {T_o : Nat} {cs ams ltA acA mnA : Nat → Int} {rel fnd sz : Int} {rx : Nat → Int} {N_o : Nat → Nat} {tm : Int} {tr sh sg : Nat → Int} {sm dp th : Int} {lts acs : Nat → Nat → Int} {r_o : Int} (hmd : kMd w_o bd nr g_o T_o cs ams ltA acA mnA rel fnd sz rx N_o tm tr sh sg sm dp th) (hI : kMi nr g_o T_o lts cs acs ams ltA acA mnA) (hr : 0 ≤ r_o ∧ r_o < ((nr : Nat) : Int)) : kM E_o l_o yX7_touched (.code yX7_touched cX7_touched 9 (some .int) :: kAL) { frames := 2, cells := 0, slots := 0, locals := 45 } 0 0 [.ref (bd 25), .int (iI r_o)] w_o (pI (fun z_o w2_o => m_tc (fun t_o => m_has (lts t_o) (cs t_o) g_o r_o.toNat) T_o = z_o ∧ (kMd w2_o bd nr g_o T_o cs ams ltA acA mnA rel ((fnd + m_tf (fun t_o => m_has (lts t_o) (cs t_o) g_o r_o.toNat) (fun t_o => cs t_o * (cs t_o + 1) / 2) T_o)) sz rx N_o tm tr sh sg sm dp th) ∧ kEx w_o w2_o kMk)) := by
  refine kM_of hl0 (by decide +kernel) (Nat.le_of_ble_eq_true rfl) ?_
  intro X_o hXl h_o hr hin
  subst hXl
  obtain ⟨hwf, hnr, hT6, hmn, hg0, htx⟩ := id hI
  obtain ⟨hwr, hg5, hg6, hg7, hg8⟩ := hwf r_o.toNat (by omega)
  have hnp := m_mn (hmn r_o.toNat (by omega)) hwr
  show kG E_o X_o 9 0 0 w_o 0 [(0, .ref (bd 25)), (1, .int (iI r_o))] []
  refine k_iconst h_o dX7_touched_0 ?_
  refine k_istore_n (lv' := [(2, .int (iI 0)), (0, .ref (bd 25)), (1, .int (iI r_o))]) h_o dX7_touched_1 rfl (by decide) rfl ?_
  refine k_iconst h_o dX7_touched_2 ?_
  refine k_istore_n (lv' := [(3, .int (iI 0)), (2, .int (iI 0)), (0, .ref (bd 25)), (1, .int (iI r_o))]) h_o dX7_touched_3 rfl (by decide) rfl ?_
  have L4 : ∀ (mm : Nat) (y_o : Int) (w8_o : kW), (0 ≤ y_o ∧ y_o ≤ ((T_o : Nat) : Int)) → (kMd w8_o bd nr g_o T_o cs ams ltA acA mnA rel (fnd + m_tf (fun t_o => m_has (lts t_o) (cs t_o) g_o r_o.toNat) (fun t_o => cs t_o * (cs t_o + 1) / 2) y_o.toNat) sz rx N_o tm tr sh sg sm dp th) → (kEx w_o w8_o kMk) → ((T_o : Nat) : Int) - y_o < (mm : Int) → kG E_o X_o 9 0 0 w8_o 4 [(0, .ref (bd 25)), (1, .int (iI r_o)), (2, .int (iI (m_tc (fun t_o => m_has (lts t_o) (cs t_o) g_o r_o.toNat) (y_o).toNat))), (3, .int (iI y_o))] [] := by
    intro mm
    induction mm with
    | zero =>
      intro y_o w8_o hy hmd8 hx8 hm_o
      exfalso; omega
    | succ mm ih4 =>
      intro y_o w8_o hy hmd8 hx8 hm_o
      refine k_iload_n h_o 3 dX7_touched_4 rfl rfl ?_
      refine k_aload_n h_o 0 dX7_touched_5 rfl rfl ?_
      refine k_get h_o 19 kf_X7_134 hmd8.1 rfl dX7_touched_6 ?_
      refine k_icmp_ge h_o 176 (by omega) (by omega) dX7_touched_9 (by decide) (fun h9_o => ?_) (fun h9_o => ?_)
      · refine k_iload_n h_o 2 dX7_touched_176 rfl rfl ?_
        exact k_iret h_o hr rfl (⟨_, rfl, (by rw [show y_o.toNat = T_o by omega]), (by rw [show y_o.toNat = T_o by omega] at hmd8; exact hmd8), hx8⟩) (by omega) (by omega) dX7_touched_177
      · obtain ⟨hly, hcy, hay, hacy, hlty, hacAy⟩ := htx y_o.toNat (by omega)
        have hc55 := m_c55 hcy
        have hmul : 0 ≤ cs y_o.toNat * (cs y_o.toNat + 1) ∧ cs y_o.toNat * (cs y_o.toNat + 1) ≤ 110 := by have e_o := m_pc (p := 0) (c := cs y_o.toNat) (by omega) hcy.2; obtain ⟨q1, q2⟩ := hcy; generalize cs y_o.toNat = v_o at *; have : v_o * (v_o + 1) ≤ 10 * 11 := Int.mul_le_mul q2 (by omega) (by omega) (by omega); have : 0 ≤ v_o * (v_o + 1) := Int.mul_nonneg (by omega) (by omega); omega
        refine k_iconst h_o dX7_touched_12 ?_
        refine k_istore (lv' := [(4, .int (iI 1)), (0, .ref (bd 25)), (1, .int (iI r_o)), (2, .int (iI (m_tc (fun t_o => m_has (lts t_o) (cs t_o) g_o r_o.toNat) (y_o).toNat))), (3, .int (iI y_o))]) h_o dX7_touched_13 (by decide) rfl ?_
        refine k_iconst h_o dX7_touched_15 ?_
        refine k_istore (lv' := [(5, .int (iI 0)), (4, .int (iI 1)), (0, .ref (bd 25)), (1, .int (iI r_o)), (2, .int (iI (m_tc (fun t_o => m_has (lts t_o) (cs t_o) g_o r_o.toNat) (y_o).toNat))), (3, .int (iI y_o))]) h_o dX7_touched_16 (by decide) rfl ?_
        have L18 : ∀ (mm : Nat) (k_o : Int), (0 ≤ k_o ∧ k_o ≤ mnA r_o.toNat) → (mnA r_o.toNat - k_o < (mm : Int)) → kG E_o X_o 9 0 0 w8_o 18 [(0, .ref (bd 25)), (1, .int (iI r_o)), (2, .int (iI (m_tc (fun t_o => m_has (lts t_o) (cs t_o) g_o r_o.toNat) (y_o).toNat))), (3, .int (iI y_o)), (4, .int (iI (bI (m_hk (lts y_o.toNat) (cs y_o.toNat) g_o r_o.toNat (k_o).toNat)))), (5, .int (iI k_o))] [] := by
          intro mm
          induction mm with
          | zero =>
            intro k_o hk hm_o
            exfalso; omega
          | succ mm ih18 =>
            intro k_o hk hm_o
            refine k_iload h_o 5 dX7_touched_18 rfl ?_
            refine k_aload_n h_o 0 dX7_touched_20 rfl rfl ?_
            refine k_get h_o 19 kf_X7_16 hmd8.1 rfl dX7_touched_21 ?_
            refine k_iload_n h_o 1 dX7_touched_24 rfl rfl ?_
            refine k_iald h_o 22 hmd8.2.2.2.1 (by omega) (by decide) dX7_touched_25 ?_
            refine k_icmp_ge h_o 121 (by omega) (by omega) dX7_touched_26 (by decide) (fun h26_o => ?_) (fun h26_o => ?_)
            · have hkm : k_o = mnA r_o.toNat := by omega
              have hall : m_hk (lts y_o.toNat) (cs y_o.toNat) g_o r_o.toNat k_o.toNat ↔ (fun t_o => m_has (lts t_o) (cs t_o) g_o r_o.toNat) y_o.toNat := by rw [hkm]; exact m_hk_has hnp
              refine k_iload_n h_o 2 dX7_touched_121 rfl rfl ?_
              refine k_iload h_o 4 dX7_touched_122 rfl ?_
              refine k_ifBeq h_o 131 dX7_touched_124 (by decide) (fun h124_o => ?_) (fun h124_o => ?_)
              · refine k_iconst h_o dX7_touched_131 ?_
                refine k_iadd h_o dX7_touched_132 ?_
                refine k_istore_n (lv' := [(2, .int (iI ((m_tc (fun t_o => m_has (lts t_o) (cs t_o) g_o r_o.toNat) (y_o).toNat) + 0))), (0, .ref (bd 25)), (1, .int (iI r_o)), (3, .int (iI y_o)), (4, .int (iI (bI (m_hk (lts y_o.toNat) (cs y_o.toNat) g_o r_o.toNat (k_o).toNat)))), (5, .int (iI k_o))]) h_o dX7_touched_133 rfl (by decide) rfl ?_
                refine k_aload_n h_o 1 dX7_touched_134 rfl rfl ?_
                refine k_dup h_o dX7_touched_135 rfl ?_
                refine k_get h_o 19 kf_X7_137 hmd8.1 rfl dX7_touched_136 ?_
                refine k_iload h_o 4 dX7_touched_139 rfl ?_
                refine k_ifBeq h_o 165 dX7_touched_141 (by decide) (fun h141_o => ?_) (fun h141_o => ?_)
                · refine k_lconst (z := 0) h_o dX7_touched_165 (by decide) ?_
                  refine k_ladd h_o dX7_touched_166 ?_
                  refine k_topL (z' := fnd + m_tf (fun t_o => m_has (lts t_o) (cs t_o) g_o r_o.toNat) (fun t_o => cs t_o * (cs t_o + 1) / 2) (y_o + 1).toNat) (by rw [m_tf_f (P := (fun t_o => m_has (lts t_o) (cs t_o) g_o r_o.toNat)) hy.1 (fun q_o => h124_o (hall.mpr q_o)), Int.add_zero]) ?_
                  refine k_put (fs' := [.ref (bd 0), .ref (bd 1), .ref (bd 2), .ref (bd 3), .ref (bd 4), .ref (bd 5), .ref (bd 6), .int (iI ((nr : Nat) : Int)), .ref (bd 8), .ref (bd 9), .ref (bd 10), .ref (bd 11), .int (iI ((T_o : Nat) : Int)), .long (lI (fnd + m_tf (fun t_o => m_has (lts t_o) (cs t_o) g_o r_o.toNat) (fun t_o => cs t_o * (cs t_o + 1) / 2) (y_o + 1).toNat)), .int (iI rel), .ref (bd 15), .int (iI sz), .ref (bd 17), .ref (bd 18), .int (iI tm), .ref (bd 20), .ref (bd 21), .int (iI sm), .int (iI dp), .int (iI th)]) h_o 19 kf_X7_137 kt_X7_13 hmd8.1 rfl rfl (Nat.le_of_ble_eq_true rfl) rfl dX7_touched_167 ?_
                  refine k_iinc (lv' := [(3, .int (iI (y_o + 1))), (2, .int (iI ((m_tc (fun t_o => m_has (lts t_o) (cs t_o) g_o r_o.toNat) (y_o).toNat) + 0))), (0, .ref (bd 25)), (1, .int (iI r_o)), (4, .int (iI (bI (m_hk (lts y_o.toNat) (cs y_o.toNat) g_o r_o.toNat (k_o).toNat)))), (5, .int (iI k_o))]) h_o 3 dX7_touched_170 rfl (by decide) rfl ?_
                  refine k_goto h_o 4 dX7_touched_173 (by decide) ?_
                  refine k_sub (lv' := [(0, .ref (bd 25)), (1, .int (iI r_o)), (2, .int (iI ((m_tc (fun t_o => m_has (lts t_o) (cs t_o) g_o r_o.toNat) (y_o).toNat) + 0))), (3, .int (iI (y_o + 1)))]) [2, 3, 1, 0] rfl ?_
                  refine k_lv (lv' := [(0, .ref (bd 25)), (1, .int (iI r_o)), (2, .int (iI (m_tc (fun t_o => m_has (lts t_o) (cs t_o) g_o r_o.toNat) (y_o + 1).toNat))), (3, .int (iI (y_o + 1)))]) (by rw [m_tc_f (P := (fun t_o => m_has (lts t_o) (cs t_o) g_o r_o.toNat)) hy.1 (fun q_o => h124_o (hall.mpr q_o)), Int.add_zero]) ?_
                  exact ih4 (y_o + 1) (kset w8_o 19 (bd 25) (ob 9 [.ref (bd 0), .ref (bd 1), .ref (bd 2), .ref (bd 3), .ref (bd 4), .ref (bd 5), .ref (bd 6), .int (iI ((nr : Nat) : Int)), .ref (bd 8), .ref (bd 9), .ref (bd 10), .ref (bd 11), .int (iI ((T_o : Nat) : Int)), .long (lI (fnd + m_tf (fun t_o => m_has (lts t_o) (cs t_o) g_o r_o.toNat) (fun t_o => cs t_o * (cs t_o + 1) / 2) (y_o + 1).toNat)), .int (iI rel), .ref (bd 15), .int (iI sz), .ref (bd 17), .ref (bd 18), .int (iI tm), .ref (bd 20), .ref (bd 21), .int (iI sm), .int (iI dp), .int (iI th)])) (by omega) (⟨kset_eq, ((kset_ne (by decide)).trans hmd8.2.1), ((kset_ne (by decide)).trans hmd8.2.2.1), ((kset_ne (by decide)).trans hmd8.2.2.2.1), ((kset_ne (by decide)).trans hmd8.2.2.2.2.1), ((kset_ne (by decide)).trans hmd8.2.2.2.2.2.1), ((kset_ne (by decide)).trans hmd8.2.2.2.2.2.2.1), ((kset_ne (by decide)).trans hmd8.2.2.2.2.2.2.2.1), ((kset_ne (by decide)).trans hmd8.2.2.2.2.2.2.2.2.1), ((kset_ne (by decide)).trans hmd8.2.2.2.2.2.2.2.2.2.1), ((kset_ne (by decide)).trans hmd8.2.2.2.2.2.2.2.2.2.2.1), ((kset_ne (by decide)).trans hmd8.2.2.2.2.2.2.2.2.2.2.2.1), ((kset_ne (by decide)).trans hmd8.2.2.2.2.2.2.2.2.2.2.2.2.1), ((kset_ne (by decide)).trans hmd8.2.2.2.2.2.2.2.2.2.2.2.2.2.1), ((kset_ne (by decide)).trans hmd8.2.2.2.2.2.2.2.2.2.2.2.2.2.2.1), ((kset_ne (by decide)).trans hmd8.2.2.2.2.2.2.2.2.2.2.2.2.2.2.2.1), ((kset_ne (by decide)).trans hmd8.2.2.2.2.2.2.2.2.2.2.2.2.2.2.2.2)⟩) (fun x_o hx => ((kset_ne (by omega)).trans (hx8 x_o hx))) (by omega)
                · exfalso; exact h124_o h141_o
              · refine k_iconst h_o dX7_touched_127 ?_
                refine k_goto h_o 132 dX7_touched_128 (by decide) ?_
                refine k_iadd h_o dX7_touched_132 ?_
                refine k_istore_n (lv' := [(2, .int (iI ((m_tc (fun t_o => m_has (lts t_o) (cs t_o) g_o r_o.toNat) (y_o).toNat) + 1))), (0, .ref (bd 25)), (1, .int (iI r_o)), (3, .int (iI y_o)), (4, .int (iI (bI (m_hk (lts y_o.toNat) (cs y_o.toNat) g_o r_o.toNat (k_o).toNat)))), (5, .int (iI k_o))]) h_o dX7_touched_133 rfl (by decide) rfl ?_
                refine k_aload_n h_o 1 dX7_touched_134 rfl rfl ?_
                refine k_dup h_o dX7_touched_135 rfl ?_
                refine k_get h_o 19 kf_X7_137 hmd8.1 rfl dX7_touched_136 ?_
                refine k_iload h_o 4 dX7_touched_139 rfl ?_
                refine k_ifBeq h_o 165 dX7_touched_141 (by decide) (fun h141_o => ?_) (fun h141_o => ?_)
                · exfalso; exact h141_o h124_o
                · refine k_aload_n h_o 1 dX7_touched_144 rfl rfl ?_
                  refine k_get h_o 19 kf_X7_35 hmd8.1 rfl dX7_touched_145 ?_
                  refine k_iload_n h_o 3 dX7_touched_148 rfl rfl ?_
                  refine k_iald h_o 29 hmd8.2.2.2.2.2.2.2.2.2.1 (by omega) (by decide) dX7_touched_149 ?_
                  refine k_aload_n h_o 1 dX7_touched_150 rfl rfl ?_
                  refine k_get h_o 19 kf_X7_35 hmd8.1 rfl dX7_touched_151 ?_
                  refine k_iload_n h_o 3 dX7_touched_154 rfl rfl ?_
                  refine k_iald h_o 29 hmd8.2.2.2.2.2.2.2.2.2.1 (by omega) (by decide) dX7_touched_155 ?_
                  refine k_iconst h_o dX7_touched_156 ?_
                  refine k_iadd h_o dX7_touched_157 ?_
                  refine k_imul h_o dX7_touched_158 ?_
                  refine k_iconst h_o dX7_touched_159 ?_
                  refine k_idiv h_o (by omega) (by decide) dX7_touched_160 ?_
                  refine k_i2l h_o (by omega) dX7_touched_161 ?_
                  refine k_goto h_o 166 dX7_touched_162 (by decide) ?_
                  refine k_ladd h_o dX7_touched_166 ?_
                  refine k_topL (z' := fnd + m_tf (fun t_o => m_has (lts t_o) (cs t_o) g_o r_o.toNat) (fun t_o => cs t_o * (cs t_o + 1) / 2) (y_o + 1).toNat) (by rw [m_tf_t (P := (fun t_o => m_has (lts t_o) (cs t_o) g_o r_o.toNat)) (f := (fun t_o => cs t_o * (cs t_o + 1) / 2)) hy.1 (hall.mp h124_o)]; exact Int.add_assoc _ _ _) ?_
                  refine k_put (fs' := [.ref (bd 0), .ref (bd 1), .ref (bd 2), .ref (bd 3), .ref (bd 4), .ref (bd 5), .ref (bd 6), .int (iI ((nr : Nat) : Int)), .ref (bd 8), .ref (bd 9), .ref (bd 10), .ref (bd 11), .int (iI ((T_o : Nat) : Int)), .long (lI (fnd + m_tf (fun t_o => m_has (lts t_o) (cs t_o) g_o r_o.toNat) (fun t_o => cs t_o * (cs t_o + 1) / 2) (y_o + 1).toNat)), .int (iI rel), .ref (bd 15), .int (iI sz), .ref (bd 17), .ref (bd 18), .int (iI tm), .ref (bd 20), .ref (bd 21), .int (iI sm), .int (iI dp), .int (iI th)]) h_o 19 kf_X7_137 kt_X7_13 hmd8.1 rfl rfl (Nat.le_of_ble_eq_true rfl) rfl dX7_touched_167 ?_
                  refine k_iinc (lv' := [(3, .int (iI (y_o + 1))), (2, .int (iI ((m_tc (fun t_o => m_has (lts t_o) (cs t_o) g_o r_o.toNat) (y_o).toNat) + 1))), (0, .ref (bd 25)), (1, .int (iI r_o)), (4, .int (iI (bI (m_hk (lts y_o.toNat) (cs y_o.toNat) g_o r_o.toNat (k_o).toNat)))), (5, .int (iI k_o))]) h_o 3 dX7_touched_170 rfl (by decide) rfl ?_
                  refine k_goto h_o 4 dX7_touched_173 (by decide) ?_
                  refine k_sub (lv' := [(0, .ref (bd 25)), (1, .int (iI r_o)), (2, .int (iI ((m_tc (fun t_o => m_has (lts t_o) (cs t_o) g_o r_o.toNat) (y_o).toNat) + 1))), (3, .int (iI (y_o + 1)))]) [2, 3, 1, 0] rfl ?_
                  refine k_lv (lv' := [(0, .ref (bd 25)), (1, .int (iI r_o)), (2, .int (iI (m_tc (fun t_o => m_has (lts t_o) (cs t_o) g_o r_o.toNat) (y_o + 1).toNat))), (3, .int (iI (y_o + 1)))]) (by rw [m_tc_t (P := (fun t_o => m_has (lts t_o) (cs t_o) g_o r_o.toNat)) hy.1 (hall.mp h124_o)]) ?_
                  exact ih4 (y_o + 1) (kset w8_o 19 (bd 25) (ob 9 [.ref (bd 0), .ref (bd 1), .ref (bd 2), .ref (bd 3), .ref (bd 4), .ref (bd 5), .ref (bd 6), .int (iI ((nr : Nat) : Int)), .ref (bd 8), .ref (bd 9), .ref (bd 10), .ref (bd 11), .int (iI ((T_o : Nat) : Int)), .long (lI (fnd + m_tf (fun t_o => m_has (lts t_o) (cs t_o) g_o r_o.toNat) (fun t_o => cs t_o * (cs t_o + 1) / 2) (y_o + 1).toNat)), .int (iI rel), .ref (bd 15), .int (iI sz), .ref (bd 17), .ref (bd 18), .int (iI tm), .ref (bd 20), .ref (bd 21), .int (iI sm), .int (iI dp), .int (iI th)])) (by omega) (⟨kset_eq, ((kset_ne (by decide)).trans hmd8.2.1), ((kset_ne (by decide)).trans hmd8.2.2.1), ((kset_ne (by decide)).trans hmd8.2.2.2.1), ((kset_ne (by decide)).trans hmd8.2.2.2.2.1), ((kset_ne (by decide)).trans hmd8.2.2.2.2.2.1), ((kset_ne (by decide)).trans hmd8.2.2.2.2.2.2.1), ((kset_ne (by decide)).trans hmd8.2.2.2.2.2.2.2.1), ((kset_ne (by decide)).trans hmd8.2.2.2.2.2.2.2.2.1), ((kset_ne (by decide)).trans hmd8.2.2.2.2.2.2.2.2.2.1), ((kset_ne (by decide)).trans hmd8.2.2.2.2.2.2.2.2.2.2.1), ((kset_ne (by decide)).trans hmd8.2.2.2.2.2.2.2.2.2.2.2.1), ((kset_ne (by decide)).trans hmd8.2.2.2.2.2.2.2.2.2.2.2.2.1), ((kset_ne (by decide)).trans hmd8.2.2.2.2.2.2.2.2.2.2.2.2.2.1), ((kset_ne (by decide)).trans hmd8.2.2.2.2.2.2.2.2.2.2.2.2.2.2.1), ((kset_ne (by decide)).trans hmd8.2.2.2.2.2.2.2.2.2.2.2.2.2.2.2.1), ((kset_ne (by decide)).trans hmd8.2.2.2.2.2.2.2.2.2.2.2.2.2.2.2.2)⟩) (fun x_o hx => ((kset_ne (by omega)).trans (hx8 x_o hx))) (by omega)
            · refine k_aload_n h_o 0 dX7_touched_29 rfl rfl ?_
              refine k_get h_o 19 kf_X7_13 hmd8.1 rfl dX7_touched_30 ?_
              refine k_iconst h_o dX7_touched_33 ?_
              refine k_iload_n h_o 1 dX7_touched_34 rfl rfl ?_
              refine k_imul h_o dX7_touched_35 ?_
              refine k_iload h_o 5 dX7_touched_36 rfl ?_
              refine k_iadd h_o dX7_touched_38 ?_
              refine k_iald h_o 21 hmd8.2.2.1 (by omega) (by decide) dX7_touched_39 ?_
              refine k_top (z' := g_o (2 + k_o.toNat) r_o.toNat) (m_rt_k (by omega) (by omega)) ?_
              have hsy : m_isS (g_o (2 + k_o.toNat) r_o.toNat) := m_sy hwr hnp (by omega)
              refine k_istore (lv' := [(6, .int (iI (g_o (2 + k_o.toNat) r_o.toNat))), (0, .ref (bd 25)), (1, .int (iI r_o)), (2, .int (iI (m_tc (fun t_o => m_has (lts t_o) (cs t_o) g_o r_o.toNat) (y_o).toNat))), (3, .int (iI y_o)), (4, .int (iI (bI (m_hk (lts y_o.toNat) (cs y_o.toNat) g_o r_o.toNat (k_o).toNat)))), (5, .int (iI k_o))]) h_o dX7_touched_40 (by decide) rfl ?_
              refine k_iload h_o 0 dX7_touched_42 rfl ?_
              refine k_callS (As := [.int (iI (g_o (2 + k_o.toNat) r_o.toNat))]) (rest := []) h_o mX7_isName kq_4_211 (c_X7_isName hl0 (by omega)) rfl rfl (Nat.le_of_ble_eq_true rfl) ⟨rfl, rfl, ⟨(Nat.le_of_ble_eq_true rfl), (Nat.le_of_ble_eq_true rfl)⟩, ⟨(Nat.le_of_ble_eq_true rfl), (Nat.le_of_ble_eq_true rfl)⟩⟩ dX7_touched_44 (kcI fun z44_o w44_o hp => ?_)
              obtain ⟨rfl, rfl⟩ := hp
              refine k_istore (lv' := [(7, .int (iI (bI (m_isN (g_o (2 + k_o.toNat) r_o.toNat))))), (6, .int (iI (g_o (2 + k_o.toNat) r_o.toNat))), (0, .ref (bd 25)), (1, .int (iI r_o)), (2, .int (iI (m_tc (fun t_o => m_has (lts t_o) (cs t_o) g_o r_o.toNat) (y_o).toNat))), (3, .int (iI y_o)), (4, .int (iI (bI (m_hk (lts y_o.toNat) (cs y_o.toNat) g_o r_o.toNat (k_o).toNat)))), (5, .int (iI k_o))]) h_o dX7_touched_47 (by decide) rfl ?_
              refine k_iconst h_o dX7_touched_49 ?_
              refine k_istore (lv' := [(8, .int (iI 0)), (7, .int (iI (bI (m_isN (g_o (2 + k_o.toNat) r_o.toNat))))), (6, .int (iI (g_o (2 + k_o.toNat) r_o.toNat))), (0, .ref (bd 25)), (1, .int (iI r_o)), (2, .int (iI (m_tc (fun t_o => m_has (lts t_o) (cs t_o) g_o r_o.toNat) (y_o).toNat))), (3, .int (iI y_o)), (4, .int (iI (bI (m_hk (lts y_o.toNat) (cs y_o.toNat) g_o r_o.toNat (k_o).toNat)))), (5, .int (iI k_o))]) h_o dX7_touched_50 (by decide) rfl ?_
              have L52 : ∀ (mm : Nat) (p_o : Int), (0 ≤ p_o ∧ p_o ≤ cs y_o.toNat) → (cs y_o.toNat - p_o < (mm : Int)) → kG E_o X_o 9 0 0 w8_o 52 [(0, .ref (bd 25)), (1, .int (iI r_o)), (2, .int (iI (m_tc (fun t_o => m_has (lts t_o) (cs t_o) g_o r_o.toNat) (y_o).toNat))), (3, .int (iI y_o)), (4, .int (iI (bI (m_hk (lts y_o.toNat) (cs y_o.toNat) g_o r_o.toNat (k_o).toNat)))), (5, .int (iI k_o)), (6, .int (iI (g_o (2 + k_o.toNat) r_o.toNat))), (7, .int (iI (bI (m_isN (g_o (2 + k_o.toNat) r_o.toNat) ∨ ∃ q_o : Nat, (q_o : Int) < p_o ∧ lts y_o.toNat q_o = g_o (2 + k_o.toNat) r_o.toNat)))), (8, .int (iI p_o))] [] := by
                intro mm
                induction mm with
                | zero =>
                  intro p_o hp hm_o
                  exfalso; omega
                | succ mm ih52 =>
                  intro p_o hp hm_o
                  refine k_iload h_o 8 dX7_touched_52 rfl ?_
                  refine k_aload_n h_o 0 dX7_touched_54 rfl rfl ?_
                  refine k_get h_o 19 kf_X7_35 hmd8.1 rfl dX7_touched_55 ?_
                  refine k_iload_n h_o 3 dX7_touched_58 rfl rfl ?_
                  refine k_iald h_o 29 hmd8.2.2.2.2.2.2.2.2.2.1 (by omega) (by decide) dX7_touched_59 ?_
                  refine k_icmp_ge h_o 98 (by omega) (by omega) dX7_touched_60 (by decide) (fun h60_o => ?_) (fun h60_o => ?_)
                  · have hpc : p_o = cs y_o.toNat := by omega
                    refine k_iload h_o 4 dX7_touched_98 rfl ?_
                    refine k_ifBeq h_o 112 dX7_touched_100 (by decide) (fun h100_o => ?_) (fun h100_o => ?_)
                    · refine k_iconst h_o dX7_touched_112 ?_
                      refine k_istore (lv' := [(4, .int (iI 0)), (0, .ref (bd 25)), (1, .int (iI r_o)), (2, .int (iI (m_tc (fun t_o => m_has (lts t_o) (cs t_o) g_o r_o.toNat) (y_o).toNat))), (3, .int (iI y_o)), (5, .int (iI k_o)), (6, .int (iI (g_o (2 + k_o.toNat) r_o.toNat))), (7, .int (iI (bI (m_isN (g_o (2 + k_o.toNat) r_o.toNat) ∨ ∃ q_o : Nat, (q_o : Int) < p_o ∧ lts y_o.toNat q_o = g_o (2 + k_o.toNat) r_o.toNat)))), (8, .int (iI p_o))]) h_o dX7_touched_113 (by decide) rfl ?_
                      refine k_iinc (lv' := [(5, .int (iI (k_o + 1))), (4, .int (iI 0)), (0, .ref (bd 25)), (1, .int (iI r_o)), (2, .int (iI (m_tc (fun t_o => m_has (lts t_o) (cs t_o) g_o r_o.toNat) (y_o).toNat))), (3, .int (iI y_o)), (6, .int (iI (g_o (2 + k_o.toNat) r_o.toNat))), (7, .int (iI (bI (m_isN (g_o (2 + k_o.toNat) r_o.toNat) ∨ ∃ q_o : Nat, (q_o : Int) < p_o ∧ lts y_o.toNat q_o = g_o (2 + k_o.toNat) r_o.toNat)))), (8, .int (iI p_o))]) h_o 5 dX7_touched_115 rfl (by decide) rfl ?_
                      refine k_goto h_o 18 dX7_touched_118 (by decide) ?_
                      refine k_sub (lv' := [(0, .ref (bd 25)), (1, .int (iI r_o)), (2, .int (iI (m_tc (fun t_o => m_has (lts t_o) (cs t_o) g_o r_o.toNat) (y_o).toNat))), (3, .int (iI y_o)), (4, .int (iI 0)), (5, .int (iI (k_o + 1)))]) [2, 3, 4, 5, 1, 0] rfl ?_
                      refine k_lv (lv' := [(0, .ref (bd 25)), (1, .int (iI r_o)), (2, .int (iI (m_tc (fun t_o => m_has (lts t_o) (cs t_o) g_o r_o.toNat) (y_o).toNat))), (3, .int (iI y_o)), (4, .int (iI (bI (m_hk (lts y_o.toNat) (cs y_o.toNat) g_o r_o.toNat (k_o + 1).toNat)))), (5, .int (iI (k_o + 1)))]) (by rw [show bI (m_hk (lts y_o.toNat) (cs y_o.toNat) g_o r_o.toNat (k_o + 1).toNat) = 0 from bI_f (fun q_o => by rw [show (k_o + 1).toNat = k_o.toNat + 1 by omega] at q_o; exact h100_o ((m_hk_s (lt := lts y_o.toNat) (c := cs y_o.toNat) (g := g_o) (r := r_o.toNat) (k := k_o.toNat)).mp q_o).1)]) ?_
                      exact ih18 (k_o + 1) (by omega) (by omega)
                    · refine k_iload h_o 7 dX7_touched_103 rfl ?_
                      refine k_ifBeq h_o 112 dX7_touched_105 (by decide) (fun h105_o => ?_) (fun h105_o => ?_)
                      · have hnex : ¬ (m_isN (g_o (2 + k_o.toNat) r_o.toNat) ∨ ∃ q_o : Nat, (q_o : Int) < cs y_o.toNat ∧ lts y_o.toNat q_o = g_o (2 + k_o.toNat) r_o.toNat) := by rw [← hpc]; exact h105_o
                        refine k_iconst h_o dX7_touched_112 ?_
                        refine k_istore (lv' := [(4, .int (iI 0)), (0, .ref (bd 25)), (1, .int (iI r_o)), (2, .int (iI (m_tc (fun t_o => m_has (lts t_o) (cs t_o) g_o r_o.toNat) (y_o).toNat))), (3, .int (iI y_o)), (5, .int (iI k_o)), (6, .int (iI (g_o (2 + k_o.toNat) r_o.toNat))), (7, .int (iI (bI (m_isN (g_o (2 + k_o.toNat) r_o.toNat) ∨ ∃ q_o : Nat, (q_o : Int) < p_o ∧ lts y_o.toNat q_o = g_o (2 + k_o.toNat) r_o.toNat)))), (8, .int (iI p_o))]) h_o dX7_touched_113 (by decide) rfl ?_
                        refine k_iinc (lv' := [(5, .int (iI (k_o + 1))), (4, .int (iI 0)), (0, .ref (bd 25)), (1, .int (iI r_o)), (2, .int (iI (m_tc (fun t_o => m_has (lts t_o) (cs t_o) g_o r_o.toNat) (y_o).toNat))), (3, .int (iI y_o)), (6, .int (iI (g_o (2 + k_o.toNat) r_o.toNat))), (7, .int (iI (bI (m_isN (g_o (2 + k_o.toNat) r_o.toNat) ∨ ∃ q_o : Nat, (q_o : Int) < p_o ∧ lts y_o.toNat q_o = g_o (2 + k_o.toNat) r_o.toNat)))), (8, .int (iI p_o))]) h_o 5 dX7_touched_115 rfl (by decide) rfl ?_
                        refine k_goto h_o 18 dX7_touched_118 (by decide) ?_
                        refine k_sub (lv' := [(0, .ref (bd 25)), (1, .int (iI r_o)), (2, .int (iI (m_tc (fun t_o => m_has (lts t_o) (cs t_o) g_o r_o.toNat) (y_o).toNat))), (3, .int (iI y_o)), (4, .int (iI 0)), (5, .int (iI (k_o + 1)))]) [2, 3, 4, 5, 1, 0] rfl ?_
                        refine k_lv (lv' := [(0, .ref (bd 25)), (1, .int (iI r_o)), (2, .int (iI (m_tc (fun t_o => m_has (lts t_o) (cs t_o) g_o r_o.toNat) (y_o).toNat))), (3, .int (iI y_o)), (4, .int (iI (bI (m_hk (lts y_o.toNat) (cs y_o.toNat) g_o r_o.toNat (k_o + 1).toNat)))), (5, .int (iI (k_o + 1)))]) (by rw [show bI (m_hk (lts y_o.toNat) (cs y_o.toNat) g_o r_o.toNat (k_o + 1).toNat) = 0 from bI_f (fun q_o => by rw [show (k_o + 1).toNat = k_o.toNat + 1 by omega] at q_o; exact hnex ((m_st_iff hsy).mp ((m_hk_s (lt := lts y_o.toNat) (c := cs y_o.toNat) (g := g_o) (r := r_o.toNat) (k := k_o.toNat)).mp q_o).2))]) ?_
                        exact ih18 (k_o + 1) (by omega) (by omega)
                      · have hex : m_isN (g_o (2 + k_o.toNat) r_o.toNat) ∨ ∃ q_o : Nat, (q_o : Int) < cs y_o.toNat ∧ lts y_o.toNat q_o = g_o (2 + k_o.toNat) r_o.toNat := by rw [← hpc]; exact h105_o
                        refine k_iconst h_o dX7_touched_108 ?_
                        refine k_goto h_o 113 dX7_touched_109 (by decide) ?_
                        refine k_istore (lv' := [(4, .int (iI 1)), (0, .ref (bd 25)), (1, .int (iI r_o)), (2, .int (iI (m_tc (fun t_o => m_has (lts t_o) (cs t_o) g_o r_o.toNat) (y_o).toNat))), (3, .int (iI y_o)), (5, .int (iI k_o)), (6, .int (iI (g_o (2 + k_o.toNat) r_o.toNat))), (7, .int (iI (bI (m_isN (g_o (2 + k_o.toNat) r_o.toNat) ∨ ∃ q_o : Nat, (q_o : Int) < p_o ∧ lts y_o.toNat q_o = g_o (2 + k_o.toNat) r_o.toNat)))), (8, .int (iI p_o))]) h_o dX7_touched_113 (by decide) rfl ?_
                        refine k_iinc (lv' := [(5, .int (iI (k_o + 1))), (4, .int (iI 1)), (0, .ref (bd 25)), (1, .int (iI r_o)), (2, .int (iI (m_tc (fun t_o => m_has (lts t_o) (cs t_o) g_o r_o.toNat) (y_o).toNat))), (3, .int (iI y_o)), (6, .int (iI (g_o (2 + k_o.toNat) r_o.toNat))), (7, .int (iI (bI (m_isN (g_o (2 + k_o.toNat) r_o.toNat) ∨ ∃ q_o : Nat, (q_o : Int) < p_o ∧ lts y_o.toNat q_o = g_o (2 + k_o.toNat) r_o.toNat)))), (8, .int (iI p_o))]) h_o 5 dX7_touched_115 rfl (by decide) rfl ?_
                        refine k_goto h_o 18 dX7_touched_118 (by decide) ?_
                        refine k_sub (lv' := [(0, .ref (bd 25)), (1, .int (iI r_o)), (2, .int (iI (m_tc (fun t_o => m_has (lts t_o) (cs t_o) g_o r_o.toNat) (y_o).toNat))), (3, .int (iI y_o)), (4, .int (iI 1)), (5, .int (iI (k_o + 1)))]) [2, 3, 4, 5, 1, 0] rfl ?_
                        refine k_lv (lv' := [(0, .ref (bd 25)), (1, .int (iI r_o)), (2, .int (iI (m_tc (fun t_o => m_has (lts t_o) (cs t_o) g_o r_o.toNat) (y_o).toNat))), (3, .int (iI y_o)), (4, .int (iI (bI (m_hk (lts y_o.toNat) (cs y_o.toNat) g_o r_o.toNat (k_o + 1).toNat)))), (5, .int (iI (k_o + 1)))]) (by rw [show bI (m_hk (lts y_o.toNat) (cs y_o.toNat) g_o r_o.toNat (k_o + 1).toNat) = 1 from bI_t (by rw [show (k_o + 1).toNat = k_o.toNat + 1 by omega]; exact (m_hk_s (lt := lts y_o.toNat) (c := cs y_o.toNat) (g := g_o) (r := r_o.toNat) (k := k_o.toNat)).mpr ⟨h100_o, (m_st_iff hsy).mpr hex⟩)]) ?_
                        exact ih18 (k_o + 1) (by omega) (by omega)
                  · refine k_iload h_o 7 dX7_touched_63 rfl ?_
                    refine k_ifBne h_o 85 dX7_touched_65 (by decide) (fun h65_o => ?_) (fun h65_o => ?_)
                    · refine k_iconst h_o dX7_touched_85 ?_
                      refine k_goto h_o 90 dX7_touched_86 (by decide) ?_
                      refine k_istore (lv' := [(7, .int (iI 1)), (0, .ref (bd 25)), (1, .int (iI r_o)), (2, .int (iI (m_tc (fun t_o => m_has (lts t_o) (cs t_o) g_o r_o.toNat) (y_o).toNat))), (3, .int (iI y_o)), (4, .int (iI (bI (m_hk (lts y_o.toNat) (cs y_o.toNat) g_o r_o.toNat (k_o).toNat)))), (5, .int (iI k_o)), (6, .int (iI (g_o (2 + k_o.toNat) r_o.toNat))), (8, .int (iI p_o))]) h_o dX7_touched_90 (by decide) rfl ?_
                      refine k_iinc (lv' := [(8, .int (iI (p_o + 1))), (7, .int (iI 1)), (0, .ref (bd 25)), (1, .int (iI r_o)), (2, .int (iI (m_tc (fun t_o => m_has (lts t_o) (cs t_o) g_o r_o.toNat) (y_o).toNat))), (3, .int (iI y_o)), (4, .int (iI (bI (m_hk (lts y_o.toNat) (cs y_o.toNat) g_o r_o.toNat (k_o).toNat)))), (5, .int (iI k_o)), (6, .int (iI (g_o (2 + k_o.toNat) r_o.toNat)))]) h_o 8 dX7_touched_92 rfl (by decide) rfl ?_
                      refine k_goto h_o 52 dX7_touched_95 (by decide) ?_
                      refine k_sub (lv' := [(0, .ref (bd 25)), (1, .int (iI r_o)), (2, .int (iI (m_tc (fun t_o => m_has (lts t_o) (cs t_o) g_o r_o.toNat) (y_o).toNat))), (3, .int (iI y_o)), (4, .int (iI (bI (m_hk (lts y_o.toNat) (cs y_o.toNat) g_o r_o.toNat (k_o).toNat)))), (5, .int (iI k_o)), (6, .int (iI (g_o (2 + k_o.toNat) r_o.toNat))), (7, .int (iI 1)), (8, .int (iI (p_o + 1)))]) [2, 3, 4, 5, 6, 7, 8, 1, 0] rfl ?_
                      refine k_lv (lv' := [(0, .ref (bd 25)), (1, .int (iI r_o)), (2, .int (iI (m_tc (fun t_o => m_has (lts t_o) (cs t_o) g_o r_o.toNat) (y_o).toNat))), (3, .int (iI y_o)), (4, .int (iI (bI (m_hk (lts y_o.toNat) (cs y_o.toNat) g_o r_o.toNat (k_o).toNat)))), (5, .int (iI k_o)), (6, .int (iI (g_o (2 + k_o.toNat) r_o.toNat))), (7, .int (iI (bI (m_isN (g_o (2 + k_o.toNat) r_o.toNat) ∨ ∃ q_o : Nat, (q_o : Int) < p_o + 1 ∧ lts y_o.toNat q_o = g_o (2 + k_o.toNat) r_o.toNat)))), (8, .int (iI (p_o + 1)))]) (by rw [show bI (m_isN (g_o (2 + k_o.toNat) r_o.toNat) ∨ ∃ q_o : Nat, (q_o : Int) < p_o + 1 ∧ lts y_o.toNat q_o = g_o (2 + k_o.toNat) r_o.toNat) = 1 from bI_t ((m_ex_s hp.1).mpr (by first | exact Or.inl h65_o | exact Or.inr (by omega)))]) ?_
                      exact ih52 (p_o + 1) (by omega) (by omega)
                    · refine k_aload_n h_o 0 dX7_touched_68 rfl rfl ?_
                      refine k_get h_o 19 kf_X7_32 hmd8.1 rfl dX7_touched_69 ?_
                      refine k_bipush h_o dX7_touched_72 (by decide) ?_
                      refine k_iload_n h_o 3 dX7_touched_74 rfl rfl ?_
                      refine k_imul h_o dX7_touched_75 ?_
                      refine k_iload h_o 8 dX7_touched_76 rfl ?_
                      refine k_iadd h_o dX7_touched_78 ?_
                      refine k_iald h_o 28 hmd8.2.2.2.2.2.2.2.2.1 (by omega) (by decide) dX7_touched_79 ?_
                      refine k_top (z' := lts y_o.toNat p_o.toNat) (by rw [show (10 * y_o + p_o).toNat = 10 * y_o.toNat + p_o.toNat by omega]; exact hlty p_o.toNat (by omega)) ?_
                      refine k_iload h_o 6 dX7_touched_80 rfl ?_
                      refine k_icmp_ne h_o 89 (by have := hly p_o.toNat; omega) (by omega) dX7_touched_82 (by decide) (fun h82_o => ?_) (fun h82_o => ?_)
                      · refine k_iconst h_o dX7_touched_89 ?_
                        refine k_istore (lv' := [(7, .int (iI 0)), (0, .ref (bd 25)), (1, .int (iI r_o)), (2, .int (iI (m_tc (fun t_o => m_has (lts t_o) (cs t_o) g_o r_o.toNat) (y_o).toNat))), (3, .int (iI y_o)), (4, .int (iI (bI (m_hk (lts y_o.toNat) (cs y_o.toNat) g_o r_o.toNat (k_o).toNat)))), (5, .int (iI k_o)), (6, .int (iI (g_o (2 + k_o.toNat) r_o.toNat))), (8, .int (iI p_o))]) h_o dX7_touched_90 (by decide) rfl ?_
                        refine k_iinc (lv' := [(8, .int (iI (p_o + 1))), (7, .int (iI 0)), (0, .ref (bd 25)), (1, .int (iI r_o)), (2, .int (iI (m_tc (fun t_o => m_has (lts t_o) (cs t_o) g_o r_o.toNat) (y_o).toNat))), (3, .int (iI y_o)), (4, .int (iI (bI (m_hk (lts y_o.toNat) (cs y_o.toNat) g_o r_o.toNat (k_o).toNat)))), (5, .int (iI k_o)), (6, .int (iI (g_o (2 + k_o.toNat) r_o.toNat)))]) h_o 8 dX7_touched_92 rfl (by decide) rfl ?_
                        refine k_goto h_o 52 dX7_touched_95 (by decide) ?_
                        refine k_sub (lv' := [(0, .ref (bd 25)), (1, .int (iI r_o)), (2, .int (iI (m_tc (fun t_o => m_has (lts t_o) (cs t_o) g_o r_o.toNat) (y_o).toNat))), (3, .int (iI y_o)), (4, .int (iI (bI (m_hk (lts y_o.toNat) (cs y_o.toNat) g_o r_o.toNat (k_o).toNat)))), (5, .int (iI k_o)), (6, .int (iI (g_o (2 + k_o.toNat) r_o.toNat))), (7, .int (iI 0)), (8, .int (iI (p_o + 1)))]) [2, 3, 4, 5, 6, 7, 8, 1, 0] rfl ?_
                        refine k_lv (lv' := [(0, .ref (bd 25)), (1, .int (iI r_o)), (2, .int (iI (m_tc (fun t_o => m_has (lts t_o) (cs t_o) g_o r_o.toNat) (y_o).toNat))), (3, .int (iI y_o)), (4, .int (iI (bI (m_hk (lts y_o.toNat) (cs y_o.toNat) g_o r_o.toNat (k_o).toNat)))), (5, .int (iI k_o)), (6, .int (iI (g_o (2 + k_o.toNat) r_o.toNat))), (7, .int (iI (bI (m_isN (g_o (2 + k_o.toNat) r_o.toNat) ∨ ∃ q_o : Nat, (q_o : Int) < p_o + 1 ∧ lts y_o.toNat q_o = g_o (2 + k_o.toNat) r_o.toNat)))), (8, .int (iI (p_o + 1)))]) (by rw [show bI (m_isN (g_o (2 + k_o.toNat) r_o.toNat) ∨ ∃ q_o : Nat, (q_o : Int) < p_o + 1 ∧ lts y_o.toNat q_o = g_o (2 + k_o.toNat) r_o.toNat) = 0 from bI_f (fun q_o => by rcases (m_ex_s hp.1).mp q_o with q_o | q_o; exact h65_o q_o; exact h82_o q_o)]) ?_
                        exact ih52 (p_o + 1) (by omega) (by omega)
                      · refine k_iconst h_o dX7_touched_85 ?_
                        refine k_goto h_o 90 dX7_touched_86 (by decide) ?_
                        refine k_istore (lv' := [(7, .int (iI 1)), (0, .ref (bd 25)), (1, .int (iI r_o)), (2, .int (iI (m_tc (fun t_o => m_has (lts t_o) (cs t_o) g_o r_o.toNat) (y_o).toNat))), (3, .int (iI y_o)), (4, .int (iI (bI (m_hk (lts y_o.toNat) (cs y_o.toNat) g_o r_o.toNat (k_o).toNat)))), (5, .int (iI k_o)), (6, .int (iI (g_o (2 + k_o.toNat) r_o.toNat))), (8, .int (iI p_o))]) h_o dX7_touched_90 (by decide) rfl ?_
                        refine k_iinc (lv' := [(8, .int (iI (p_o + 1))), (7, .int (iI 1)), (0, .ref (bd 25)), (1, .int (iI r_o)), (2, .int (iI (m_tc (fun t_o => m_has (lts t_o) (cs t_o) g_o r_o.toNat) (y_o).toNat))), (3, .int (iI y_o)), (4, .int (iI (bI (m_hk (lts y_o.toNat) (cs y_o.toNat) g_o r_o.toNat (k_o).toNat)))), (5, .int (iI k_o)), (6, .int (iI (g_o (2 + k_o.toNat) r_o.toNat)))]) h_o 8 dX7_touched_92 rfl (by decide) rfl ?_
                        refine k_goto h_o 52 dX7_touched_95 (by decide) ?_
                        refine k_sub (lv' := [(0, .ref (bd 25)), (1, .int (iI r_o)), (2, .int (iI (m_tc (fun t_o => m_has (lts t_o) (cs t_o) g_o r_o.toNat) (y_o).toNat))), (3, .int (iI y_o)), (4, .int (iI (bI (m_hk (lts y_o.toNat) (cs y_o.toNat) g_o r_o.toNat (k_o).toNat)))), (5, .int (iI k_o)), (6, .int (iI (g_o (2 + k_o.toNat) r_o.toNat))), (7, .int (iI 1)), (8, .int (iI (p_o + 1)))]) [2, 3, 4, 5, 6, 7, 8, 1, 0] rfl ?_
                        refine k_lv (lv' := [(0, .ref (bd 25)), (1, .int (iI r_o)), (2, .int (iI (m_tc (fun t_o => m_has (lts t_o) (cs t_o) g_o r_o.toNat) (y_o).toNat))), (3, .int (iI y_o)), (4, .int (iI (bI (m_hk (lts y_o.toNat) (cs y_o.toNat) g_o r_o.toNat (k_o).toNat)))), (5, .int (iI k_o)), (6, .int (iI (g_o (2 + k_o.toNat) r_o.toNat))), (7, .int (iI (bI (m_isN (g_o (2 + k_o.toNat) r_o.toNat) ∨ ∃ q_o : Nat, (q_o : Int) < p_o + 1 ∧ lts y_o.toNat q_o = g_o (2 + k_o.toNat) r_o.toNat)))), (8, .int (iI (p_o + 1)))]) (by rw [show bI (m_isN (g_o (2 + k_o.toNat) r_o.toNat) ∨ ∃ q_o : Nat, (q_o : Int) < p_o + 1 ∧ lts y_o.toNat q_o = g_o (2 + k_o.toNat) r_o.toNat) = 1 from bI_t ((m_ex_s hp.1).mpr (by first | exact Or.inl h65_o | exact Or.inr (by omega)))]) ?_
                        exact ih52 (p_o + 1) (by omega) (by omega)
              refine k_sub (lv' := [(0, .ref (bd 25)), (1, .int (iI r_o)), (2, .int (iI (m_tc (fun t_o => m_has (lts t_o) (cs t_o) g_o r_o.toNat) (y_o).toNat))), (3, .int (iI y_o)), (4, .int (iI (bI (m_hk (lts y_o.toNat) (cs y_o.toNat) g_o r_o.toNat (k_o).toNat)))), (5, .int (iI k_o)), (6, .int (iI (g_o (2 + k_o.toNat) r_o.toNat))), (7, .int (iI (bI (m_isN (g_o (2 + k_o.toNat) r_o.toNat))))), (8, .int (iI 0))]) [3, 4, 5, 6, 7, 8, 2, 1, 0] rfl ?_
              refine k_lv (lv' := [(0, .ref (bd 25)), (1, .int (iI r_o)), (2, .int (iI (m_tc (fun t_o => m_has (lts t_o) (cs t_o) g_o r_o.toNat) (y_o).toNat))), (3, .int (iI y_o)), (4, .int (iI (bI (m_hk (lts y_o.toNat) (cs y_o.toNat) g_o r_o.toNat (k_o).toNat)))), (5, .int (iI k_o)), (6, .int (iI (g_o (2 + k_o.toNat) r_o.toNat))), (7, .int (iI (bI (m_isN (g_o (2 + k_o.toNat) r_o.toNat) ∨ ∃ q_o : Nat, (q_o : Int) < 0 ∧ lts y_o.toNat q_o = g_o (2 + k_o.toNat) r_o.toNat)))), (8, .int (iI 0))]) (by rw [bI_iff (show (m_isN (g_o (2 + k_o.toNat) r_o.toNat) ∨ ∃ q_o : Nat, (q_o : Int) < 0 ∧ lts y_o.toNat q_o = g_o (2 + k_o.toNat) r_o.toNat) ↔ m_isN (g_o (2 + k_o.toNat) r_o.toNat) from ⟨fun q_o => by rcases q_o with q_o | ⟨q1, q2, _⟩; exact q_o; omega, Or.inl⟩)]) ?_
              exact L52 ((cs y_o.toNat - 0 : Int).toNat + 1) 0 (by omega) (by omega)
        refine k_sub (lv' := [(0, .ref (bd 25)), (1, .int (iI r_o)), (2, .int (iI (m_tc (fun t_o => m_has (lts t_o) (cs t_o) g_o r_o.toNat) (y_o).toNat))), (3, .int (iI y_o)), (4, .int (iI 1)), (5, .int (iI 0))]) [2, 3, 4, 5, 1, 0] rfl ?_
        refine k_lv (lv' := [(0, .ref (bd 25)), (1, .int (iI r_o)), (2, .int (iI (m_tc (fun t_o => m_has (lts t_o) (cs t_o) g_o r_o.toNat) (y_o).toNat))), (3, .int (iI y_o)), (4, .int (iI (bI (m_hk (lts y_o.toNat) (cs y_o.toNat) g_o r_o.toNat (0 : Int).toNat)))), (5, .int (iI 0))]) (by rw [show bI (m_hk (lts y_o.toNat) (cs y_o.toNat) g_o r_o.toNat (0 : Int).toNat) = 1 from bI_t m_hk_0]) ?_
        exact L18 ((mnA r_o.toNat - 0 : Int).toNat + 1) 0 (by omega) (by omega)
  refine k_sub (lv' := [(0, .ref (bd 25)), (1, .int (iI r_o)), (2, .int (iI 0)), (3, .int (iI 0))]) [2, 3, 1, 0] rfl ?_
  refine k_lv (lv' := [(0, .ref (bd 25)), (1, .int (iI r_o)), (2, .int (iI (m_tc (fun t_o => m_has (lts t_o) (cs t_o) g_o r_o.toNat) (0 : Int).toNat))), (3, .int (iI 0))]) (by rw [show m_tc (fun t_o => m_has (lts t_o) (cs t_o) g_o r_o.toNat) (0 : Int).toNat = 0 from rfl]) ?_
  exact L4 ((((T_o : Nat) : Int) - 0 : Int).toNat + 1) 0 w_o (by omega) (by show kMd w_o bd nr g_o T_o cs ams ltA acA mnA rel ((fnd + 0)) sz rx N_o tm tr sh sg sm dp th; rw [Int.add_zero]; exact hmd) kEx.rfl (by omega)
