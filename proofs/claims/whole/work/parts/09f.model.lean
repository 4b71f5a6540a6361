set_option maxHeartbeats 4000000 in
set_option maxRecDepth 100000 in
theorem c_X7_blanks {E_o : kE} {l_o : Launch} (hl0 : l_o.stackTraces = false) {w_o : kW} {bd : Nat → Nat} {nr : Nat} {g_o : Nat → Nat → Int} {T_o : Nat} {cs ams ltA acA mnA : Nat → Int} {rel fnd sz : Int} {rx : Nat → Int} {N_o : Nat → Nat} {tm : Int} {tr sh sg : Nat → Int} {sm dp th : Int} {r_o : Nat} (hmd : kMd w_o bd nr g_o T_o cs ams ltA acA mnA rel fnd sz rx N_o tm tr sh sg sm dp th) (hr12 : r_o < 12) (hg7 : 0 ≤ g_o 7 r_o ∧ g_o 7 r_o ≤ 3) (hsm : 0 ≤ sm ∧ sm ≤ 40) : kM E_o l_o yX7_blanks (.code yX7_blanks cX7_blanks 3 none :: kAL) { frames := 0, cells := 0, slots := 0, locals := 0 } 0 0 [.ref (bd 25), .int (iI ((r_o : Nat) : Int))] w_o (pV (fun w2_o => (kMd w2_o bd nr g_o T_o cs ams ltA acA mnA rel fnd sz rx N_o tm tr sh (m_col sg sm (sm + g_o 7 r_o - 1) 32) (sm + g_o 7 r_o) dp th) ∧ kEx w_o w2_o kMk)) := by
  refine kM_of hl0 (by decide +kernel) (Nat.le_of_ble_eq_true rfl) ?_
  intro X_o hXl h_o hr hin
  subst hXl
  show kG E_o X_o 3 0 0 w_o 0 [(0, .ref (bd 25)), (1, .int (iI ((r_o : Nat) : Int)))] []
  refine k_iconst h_o dX7_blanks_0 ?_
  refine k_istore_n (lv' := [(2, .int (iI 0)), (0, .ref (bd 25)), (1, .int (iI ((r_o : Nat) : Int)))]) h_o dX7_blanks_1 rfl (by decide) rfl ?_
  have L2 : ∀ (mm : Nat) (y_o : Int) (w8_o : kW), (0 ≤ y_o ∧ y_o ≤ g_o 7 r_o) → (kMd w8_o bd nr g_o T_o cs ams ltA acA mnA rel fnd sz rx N_o tm tr sh (m_col sg sm (sm + y_o - 1) 32) (sm + y_o) dp th) → (kEx w_o w8_o kMk) → (g_o 7 r_o - y_o < (mm : Int)) → kG E_o X_o 3 0 0 w8_o 2 [(0, .ref (bd 25)), (1, .int (iI ((r_o : Nat) : Int))), (2, .int (iI y_o))] [] := by
    intro mm
    induction mm with
    | zero =>
      intro y_o w8_o hy hmd8 hx8 hm_o
      exfalso; omega
    | succ mm ih2 =>
      intro y_o w8_o hy hmd8 hx8 hm_o
      refine k_iload_n h_o 2 dX7_blanks_2 rfl rfl ?_
      refine k_aload_n h_o 0 dX7_blanks_3 rfl rfl ?_
      refine k_get h_o 19 kf_X7_25 hmd8.1 rfl dX7_blanks_4 ?_
      refine k_iload_n h_o 1 dX7_blanks_7 rfl rfl ?_
      refine k_iald h_o 25 hmd8.2.2.2.2.2.2.1 (by omega) (by decide) dX7_blanks_8 ?_
      refine k_top (z' := g_o 7 r_o) (by rw [Int.toNat_natCast]) ?_
      refine k_icmp_ge h_o 39 (by omega) (by omega) dX7_blanks_9 (by decide) (fun h9_o => ?_) (fun h9_o => ?_)
      · exact k_vret h_o hr (⟨rfl, (by rw [show g_o 7 r_o = y_o by omega]; exact hmd8), hx8⟩) (by omega) (by omega) dX7_blanks_39
      · refine k_aload_n h_o 0 dX7_blanks_12 rfl rfl ?_
        refine k_get h_o 19 kf_X7_56 hmd8.1 rfl dX7_blanks_13 ?_
        refine k_aload_n h_o 0 dX7_blanks_16 rfl rfl ?_
        refine k_get h_o 19 kf_X7_109 hmd8.1 rfl dX7_blanks_17 ?_
        refine k_bipush h_o dX7_blanks_20 (by decide) ?_
        refine k_cast h_o 41 hmd8.2.2.2.2.2.2.2.2.2.2.2.2.2.2.2.2 (by omega) (by decide) (by rfl) dX7_blanks_22 ?_
        refine k_aload_n h_o 0 dX7_blanks_23 rfl rfl ?_
        refine k_dup h_o dX7_blanks_24 rfl ?_
        refine k_get h_o 19 kf_X7_109 ((kset_ne (by decide)).trans hmd8.1) rfl dX7_blanks_25 ?_
        refine k_iconst h_o dX7_blanks_28 ?_
        refine k_iadd h_o dX7_blanks_29 ?_
        refine k_top (z' := sm + (y_o + 1)) (by omega) ?_
        refine k_put (fs' := [.ref (bd 0), .ref (bd 1), .ref (bd 2), .ref (bd 3), .ref (bd 4), .ref (bd 5), .ref (bd 6), .int (iI ((nr : Nat) : Int)), .ref (bd 8), .ref (bd 9), .ref (bd 10), .ref (bd 11), .int (iI ((T_o : Nat) : Int)), .long (lI fnd), .int (iI rel), .ref (bd 15), .int (iI sz), .ref (bd 17), .ref (bd 18), .int (iI tm), .ref (bd 20), .ref (bd 21), .int (iI (sm + (y_o + 1))), .int (iI dp), .int (iI th)]) h_o 19 kf_X7_109 kt_X7_22 ((kset_ne (by decide)).trans hmd8.1) rfl rfl (Nat.le_of_ble_eq_true rfl) rfl dX7_blanks_30 ?_
        have hcl : kup (m_col sg sm (sm + y_o - 1) 32) (sm + y_o).toNat 32 = m_col sg sm (sm + (y_o + 1) - 1) 32 := by have e_o := m_col_s (f := sg) (i := sm) (j := sm + y_o - 1) (v := 32) hsm.1 (by omega) (by omega); rw [show sm + y_o - 1 + 1 = sm + y_o by omega] at e_o; rw [e_o, show sm + (y_o + 1) - 1 = sm + y_o by omega]
        refine k_iinc (lv' := [(2, .int (iI (y_o + 1))), (0, .ref (bd 25)), (1, .int (iI ((r_o : Nat) : Int)))]) h_o 2 dX7_blanks_33 rfl (by decide) rfl ?_
        refine k_goto h_o 2 dX7_blanks_36 (by decide) ?_
        refine k_sub (lv' := [(0, .ref (bd 25)), (1, .int (iI ((r_o : Nat) : Int))), (2, .int (iI (y_o + 1)))]) [1, 2, 0] rfl ?_
        exact ih2 (y_o + 1) (kset (kset w8_o 41 (bd 21) (ac 64 (kup (m_col sg sm (sm + y_o - 1) 32) ((sm + y_o).toNat) 32))) 19 (bd 25) (ob 9 [.ref (bd 0), .ref (bd 1), .ref (bd 2), .ref (bd 3), .ref (bd 4), .ref (bd 5), .ref (bd 6), .int (iI ((nr : Nat) : Int)), .ref (bd 8), .ref (bd 9), .ref (bd 10), .ref (bd 11), .int (iI ((T_o : Nat) : Int)), .long (lI fnd), .int (iI rel), .ref (bd 15), .int (iI sz), .ref (bd 17), .ref (bd 18), .int (iI tm), .ref (bd 20), .ref (bd 21), .int (iI (sm + (y_o + 1))), .int (iI dp), .int (iI th)])) (by omega) (by rw [← hcl]; exact ⟨kset_eq, ((kset_ne (by decide)).trans ((kset_ne (by decide)).trans hmd8.2.1)), ((kset_ne (by decide)).trans ((kset_ne (by decide)).trans hmd8.2.2.1)), ((kset_ne (by decide)).trans ((kset_ne (by decide)).trans hmd8.2.2.2.1)), ((kset_ne (by decide)).trans ((kset_ne (by decide)).trans hmd8.2.2.2.2.1)), ((kset_ne (by decide)).trans ((kset_ne (by decide)).trans hmd8.2.2.2.2.2.1)), ((kset_ne (by decide)).trans ((kset_ne (by decide)).trans hmd8.2.2.2.2.2.2.1)), ((kset_ne (by decide)).trans ((kset_ne (by decide)).trans hmd8.2.2.2.2.2.2.2.1)), ((kset_ne (by decide)).trans ((kset_ne (by decide)).trans hmd8.2.2.2.2.2.2.2.2.1)), ((kset_ne (by decide)).trans ((kset_ne (by decide)).trans hmd8.2.2.2.2.2.2.2.2.2.1)), ((kset_ne (by decide)).trans ((kset_ne (by decide)).trans hmd8.2.2.2.2.2.2.2.2.2.2.1)), ((kset_ne (by decide)).trans ((kset_ne (by decide)).trans hmd8.2.2.2.2.2.2.2.2.2.2.2.1)), ((kset_ne (by decide)).trans ((kset_ne (by decide)).trans hmd8.2.2.2.2.2.2.2.2.2.2.2.2.1)), ((kset_ne (by decide)).trans ((kset_ne (by decide)).trans hmd8.2.2.2.2.2.2.2.2.2.2.2.2.2.1)), ((kset_ne (by decide)).trans ((kset_ne (by decide)).trans hmd8.2.2.2.2.2.2.2.2.2.2.2.2.2.2.1)), ((kset_ne (by decide)).trans ((kset_ne (by decide)).trans hmd8.2.2.2.2.2.2.2.2.2.2.2.2.2.2.2.1)), ((kset_ne (by decide)).trans kset_eq)⟩) (fun x_o hx => ((kset_ne (by omega)).trans ((kset_ne (by omega)).trans (hx8 x_o hx)))) (by omega)
  refine k_sub (lv' := [(0, .ref (bd 25)), (1, .int (iI ((r_o : Nat) : Int))), (2, .int (iI 0))]) [1, 2, 0] rfl ?_
  exact L2 ((g_o 7 r_o - 0 : Int).toNat + 1) 0 w_o (by omega) (by rw [m_col_0 (by omega), Int.add_zero]; exact hmd) kEx.rfl (by omega)

set_option maxHeartbeats 4000000 in
set_option maxRecDepth 100000 in
theorem c_X7_walks {E_o : kE} {l_o : Launch} (hl0 : l_o.stackTraces = false) {d_o : Nat} (hSe : kSeC E_o l_o d_o) {w_o : kW} {bd : Nat → Nat} {nr : Nat} {g_o : Nat → Nat → Int} {T_o : Nat} {cs ams ltA acA mnA : Nat → Int} {rel fnd sz : Int} {rx : Nat → Int} {N_o : Nat → Nat} {tm : Int} {tr sh sg : Nat → Int} {sm dp th : Int} {O_o : kO} {s_o i_o j_o L_o a_o c_o : Int} (hk : kWk w_o bd nr g_o T_o cs ams ltA acA mnA rel fnd sz rx N_o tm tr sh sg sm dp th O_o s_o i_o j_o L_o a_o c_o (d_o + 1)) (hn : m_isN s_o) : kM E_o l_o yX7_walks (.code yX7_walks cX7_walks 11 none :: kAL) { frames := 2 * d_o + 9, cells := 0, slots := 0, locals := 55 * d_o + 225 } 0 0 [.ref (bd 25), .int (iI s_o), .int (iI i_o), .int (iI j_o), .int (iI (L_o + 1)), .int (iI a_o)] w_o (pV (fun w2_o => kWp w_o w2_o bd nr g_o T_o cs ams ltA acA mnA rel fnd sz rx N_o th (m_run g_o nr rx (d_o + 1) s_o i_o j_o L_o O_o) j_o)) := by
  refine kM_of hl0 (by decide +kernel) (Nat.le_of_ble_eq_true rfl) ?_
  intro X_o hXl h_o hr hin
  subst hXl
  obtain ⟨hmd, hrx, hN_o, hwf, hnr, hmn, hT, hc_o, hs, hij, hp, hMd, hL, hO1, hOi, hwr, hdp, hcol⟩ := id hk
  have hpos := hp
  rw [m_part_N hn] at hpos
  obtain ⟨r_o, k_o, lx, hr1, hr2, hr3, hr4, hr5, hr6, hr7, hr8, hr9⟩ := m_nod hwf hn (by omega) (by omega) hpos
  have hag := hT.ag (i := i_o) (j := j_o) (by omega) (by omega)
  obtain ⟨htm1, htm2, htm3⟩ := hwr.1
  have hMs := m_M_N (s := s_o) (i := i_o) (j := j_o) hn
  obtain ⟨_, hg5, hg6, hg7, hg8⟩ := hwf r_o hr1
  have hnp := m_mn (hmn r_o hr1) hr7
  have hdpr : 0 ≤ dp ∧ dp ≤ 95 := by have q_o := hOi.2.2.1; rw [hdp]; split <;> omega
  have haR : 0 ≤ a_o ∧ a_o ≤ 9 := by rw [← hcol i_o.toNat (by omega) (by omega)]; exact hOi.1 _
  show kG E_o X_o 11 0 0 w_o 0 [(0, .ref (bd 25)), (1, .int (iI s_o)), (2, .int (iI i_o)), (3, .int (iI j_o)), (4, .int (iI (L_o + 1))), (5, .int (iI a_o))] []
  refine k_aload_n h_o 0 dX7_walks_0 rfl rfl ?_
  refine k_iload_n h_o 1 dX7_walks_1 rfl rfl ?_
  refine k_iload_n h_o 2 dX7_walks_2 rfl rfl ?_
  refine k_iload_n h_o 3 dX7_walks_3 rfl rfl ?_
  refine k_callV (As := [.int (iI s_o), .int (iI i_o), .int (iI j_o)]) (rest := []) h_o mX7_chosen kq_5_91 (c_X7_chosen hl0 hmd hrx hN_o hwf hnr hmn (by omega) (by omega) (by omega)) 19 hmd.1 rfl rfl rfl (Nat.le_of_ble_eq_true rfl) ⟨rfl, rfl, ⟨by show 5 + 1 ≤ 2 * d_o + 9; omega, by show 8 + (7 + 11) + (120) ≤ 55 * d_o + 225; omega⟩, ⟨(Nat.le_of_ble_eq_true rfl), (Nat.le_of_ble_eq_true rfl)⟩⟩ dX7_walks_4 (kcI fun z4_o w4_o hp => ?_)
  obtain ⟨rfl, rfl⟩ := hp
  refine k_top (z' := ((r_o : Nat) : Int)) (by rw [m_ch_ag (fun x_o hx => (hwf x_o hx).1) hag (by omega), hr2]) ?_
  refine k_istore (lv' := [(6, .int (iI ((r_o : Nat) : Int))), (0, .ref (bd 25)), (1, .int (iI s_o)), (2, .int (iI i_o)), (3, .int (iI j_o)), (4, .int (iI (L_o + 1))), (5, .int (iI a_o))]) h_o dX7_walks_7 (by decide) rfl ?_
  have J31 : ∀ (y_o : Int), (y_o = (if g_o 6 r_o = 0 then a_o else g_o 6 r_o)) → kG E_o X_o 11 0 0 w_o 31 [(0, .ref (bd 25)), (1, .int (iI s_o)), (2, .int (iI i_o)), (3, .int (iI j_o)), (4, .int (iI (L_o + 1))), (5, .int (iI a_o)), (6, .int (iI ((r_o : Nat) : Int)))] [.int (iI y_o)] := by
    intro y_o hy
    have hyR : 0 ≤ y_o ∧ y_o ≤ 9 := by rw [hy]; split <;> omega
    refine k_istore (lv' := [(7, .int (iI y_o)), (0, .ref (bd 25)), (1, .int (iI s_o)), (2, .int (iI i_o)), (3, .int (iI j_o)), (4, .int (iI (L_o + 1))), (5, .int (iI a_o)), (6, .int (iI ((r_o : Nat) : Int)))]) h_o dX7_walks_31 (by decide) rfl ?_
    refine k_iconst h_o dX7_walks_33 ?_
    refine k_iload h_o 7 dX7_walks_34 rfl ?_
    refine k_imul h_o dX7_walks_36 ?_
    refine k_istore (lv' := [(8, .int (iI (3 * ((r_o : Nat) : Int)))), (7, .int (iI y_o)), (0, .ref (bd 25)), (1, .int (iI s_o)), (2, .int (iI i_o)), (3, .int (iI j_o)), (4, .int (iI (L_o + 1))), (5, .int (iI a_o)), (6, .int (iI ((r_o : Nat) : Int)))]) h_o dX7_walks_37 (by decide) rfl ?_
    refine k_aload_n h_o 2 dX7_walks_39 rfl rfl ?_
    refine k_get h_o 19 kf_X7_50 hmd.1 rfl dX7_walks_40 ?_
    refine k_aload_n h_o 2 dX7_walks_43 rfl rfl ?_
    refine k_get h_o 19 kf_X7_115 hmd.1 rfl dX7_walks_44 ?_
    refine k_iload h_o 8 dX7_walks_47 rfl ?_
    refine k_iast h_o 38 hmd.2.2.2.2.2.2.2.2.2.2.2.2.2.2.1 (by omega) (by decide) dX7_walks_49 ?_
    refine k_aload_n h_o 2 dX7_walks_50 rfl rfl ?_
    refine k_dup h_o dX7_walks_51 rfl ?_
    refine k_get h_o 19 kf_X7_115 ((kset_ne (by decide)).trans hmd.1) rfl dX7_walks_52 ?_
    refine k_iconst h_o dX7_walks_55 ?_
    refine k_iadd h_o dX7_walks_56 ?_
    refine k_put (fs' := [.ref (bd 0), .ref (bd 1), .ref (bd 2), .ref (bd 3), .ref (bd 4), .ref (bd 5), .ref (bd 6), .int (iI ((nr : Nat) : Int)), .ref (bd 8), .ref (bd 9), .ref (bd 10), .ref (bd 11), .int (iI ((T_o : Nat) : Int)), .long (lI fnd), .int (iI rel), .ref (bd 15), .int (iI sz), .ref (bd 17), .ref (bd 18), .int (iI (tm + 1)), .ref (bd 20), .ref (bd 21), .int (iI sm), .int (iI dp), .int (iI th)]) h_o 19 kf_X7_115 kt_X7_19 ((kset_ne (by decide)).trans hmd.1) rfl rfl (Nat.le_of_ble_eq_true rfl) rfl dX7_walks_57 ?_
    have J79 : ∀ (u_o : Int), (u_o = (if dp < L_o + 1 then L_o + 1 else dp)) → kG E_o X_o 11 0 0 (kset (kset w_o 38 (bd 18) (ai 100 (kup tr tm.toNat ((r_o : Nat) : Int)))) 19 (bd 25) (ob 9 [.ref (bd 0), .ref (bd 1), .ref (bd 2), .ref (bd 3), .ref (bd 4), .ref (bd 5), .ref (bd 6), .int (iI ((nr : Nat) : Int)), .ref (bd 8), .ref (bd 9), .ref (bd 10), .ref (bd 11), .int (iI ((T_o : Nat) : Int)), .long (lI fnd), .int (iI rel), .ref (bd 15), .int (iI sz), .ref (bd 17), .ref (bd 18), .int (iI (tm + 1)), .ref (bd 20), .ref (bd 21), .int (iI sm), .int (iI dp), .int (iI th)])) 79 [(0, .ref (bd 25)), (1, .int (iI s_o)), (2, .int (iI i_o)), (3, .int (iI j_o)), (4, .int (iI (L_o + 1))), (5, .int (iI a_o)), (6, .int (iI ((r_o : Nat) : Int))), (7, .int (iI y_o)), (8, .int (iI (3 * ((r_o : Nat) : Int))))] [.int (iI u_o), .ref (bd 25)] := by
      intro u_o hu
      refine k_put (fs' := [.ref (bd 0), .ref (bd 1), .ref (bd 2), .ref (bd 3), .ref (bd 4), .ref (bd 5), .ref (bd 6), .int (iI ((nr : Nat) : Int)), .ref (bd 8), .ref (bd 9), .ref (bd 10), .ref (bd 11), .int (iI ((T_o : Nat) : Int)), .long (lI fnd), .int (iI rel), .ref (bd 15), .int (iI sz), .ref (bd 17), .ref (bd 18), .int (iI (tm + 1)), .ref (bd 20), .ref (bd 21), .int (iI sm), .int (iI u_o), .int (iI th)]) h_o 19 kf_X7_118 kt_X7_23 kset_eq rfl rfl (Nat.le_of_ble_eq_true rfl) rfl dX7_walks_79 ?_
      have hmd1 : (kMd ((kset (kset (kset w_o 38 (bd 18) (ai 100 (kup tr tm.toNat ((r_o : Nat) : Int)))) 19 (bd 25) (ob 9 [.ref (bd 0), .ref (bd 1), .ref (bd 2), .ref (bd 3), .ref (bd 4), .ref (bd 5), .ref (bd 6), .int (iI ((nr : Nat) : Int)), .ref (bd 8), .ref (bd 9), .ref (bd 10), .ref (bd 11), .int (iI ((T_o : Nat) : Int)), .long (lI fnd), .int (iI rel), .ref (bd 15), .int (iI sz), .ref (bd 17), .ref (bd 18), .int (iI (tm + 1)), .ref (bd 20), .ref (bd 21), .int (iI sm), .int (iI dp), .int (iI th)])) 19 (bd 25) (ob 9 [.ref (bd 0), .ref (bd 1), .ref (bd 2), .ref (bd 3), .ref (bd 4), .ref (bd 5), .ref (bd 6), .int (iI ((nr : Nat) : Int)), .ref (bd 8), .ref (bd 9), .ref (bd 10), .ref (bd 11), .int (iI ((T_o : Nat) : Int)), .long (lI fnd), .int (iI rel), .ref (bd 15), .int (iI sz), .ref (bd 17), .ref (bd 18), .int (iI (tm + 1)), .ref (bd 20), .ref (bd 21), .int (iI sm), .int (iI u_o), .int (iI th)]))) bd nr g_o T_o cs ams ltA acA mnA rel fnd sz rx N_o (tm + 1) (kup tr tm.toNat ((r_o : Nat) : Int)) sh sg sm u_o th) := ⟨kset_eq, ((kset_ne (by decide)).trans ((kset_ne (by decide)).trans ((kset_ne (by decide)).trans hmd.2.1))), ((kset_ne (by decide)).trans ((kset_ne (by decide)).trans ((kset_ne (by decide)).trans hmd.2.2.1))), ((kset_ne (by decide)).trans ((kset_ne (by decide)).trans ((kset_ne (by decide)).trans hmd.2.2.2.1))), ((kset_ne (by decide)).trans ((kset_ne (by decide)).trans ((kset_ne (by decide)).trans hmd.2.2.2.2.1))), ((kset_ne (by decide)).trans ((kset_ne (by decide)).trans ((kset_ne (by decide)).trans hmd.2.2.2.2.2.1))), ((kset_ne (by decide)).trans ((kset_ne (by decide)).trans ((kset_ne (by decide)).trans hmd.2.2.2.2.2.2.1))), ((kset_ne (by decide)).trans ((kset_ne (by decide)).trans ((kset_ne (by decide)).trans hmd.2.2.2.2.2.2.2.1))), ((kset_ne (by decide)).trans ((kset_ne (by decide)).trans ((kset_ne (by decide)).trans hmd.2.2.2.2.2.2.2.2.1))), ((kset_ne (by decide)).trans ((kset_ne (by decide)).trans ((kset_ne (by decide)).trans hmd.2.2.2.2.2.2.2.2.2.1))), ((kset_ne (by decide)).trans ((kset_ne (by decide)).trans ((kset_ne (by decide)).trans hmd.2.2.2.2.2.2.2.2.2.2.1))), ((kset_ne (by decide)).trans ((kset_ne (by decide)).trans ((kset_ne (by decide)).trans hmd.2.2.2.2.2.2.2.2.2.2.2.1))), ((kset_ne (by decide)).trans ((kset_ne (by decide)).trans ((kset_ne (by decide)).trans hmd.2.2.2.2.2.2.2.2.2.2.2.2.1))), ((kset_ne (by decide)).trans ((kset_ne (by decide)).trans ((kset_ne (by decide)).trans hmd.2.2.2.2.2.2.2.2.2.2.2.2.2.1))), ((kset_ne (by decide)).trans ((kset_ne (by decide)).trans kset_eq)), ((kset_ne (by decide)).trans ((kset_ne (by decide)).trans ((kset_ne (by decide)).trans hmd.2.2.2.2.2.2.2.2.2.2.2.2.2.2.2.1))), ((kset_ne (by decide)).trans ((kset_ne (by decide)).trans ((kset_ne (by decide)).trans hmd.2.2.2.2.2.2.2.2.2.2.2.2.2.2.2.2)))⟩
      have hkl : m_kl g_o r_o i_o j_o k_o lx := by
        rcases hr9 with ⟨a1, _⟩ | ⟨a1, a2, a3, a4, _⟩ | ⟨a1, a2, a3, a4, a5, _⟩
        · exact Or.inl a1
        · exact Or.inr (Or.inl ⟨m_sym1 a1, a2, a3, a4⟩)
        · exact Or.inr (Or.inr ⟨m_sym1 a1, m_sym1 a2, a3, by omega, a5⟩)
      obtain ⟨f1, f2, f3, f4, f5, f6, f7⟩ := m_gs_fr (g := g_o) (r := r_o) (i := i_o) (j := j_o) (k := k_o) (l := lx) (O := O_o) hij.1 hkl
      obtain ⟨cc1, cc2⟩ := m_gs_cnt (g := g_o) (r := r_o) (k := k_o) (l := lx) (O := m_lr g_o r_o i_o j_o O_o)
      have cc3 : (m_gs g_o r_o k_o lx (m_lr g_o r_o i_o j_o O_o)).1 = O_o.1 + 1 := cc1
      have cc5 : kOi (m_gs g_o r_o k_o lx (m_lr g_o r_o i_o j_o O_o)) := kOi_gs hwf hr1 (kOi_lr hwf hnr hr1 hOi)
      have hwr1 : kWR (m_gs g_o r_o k_o lx (m_lr g_o r_o i_o j_o O_o)) rx i_o ((m_gs g_o r_o k_o lx (m_lr g_o r_o i_o j_o O_o)).2.2.2.1 i_o.toNat) (tm + 1) (kup tr tm.toNat ((r_o : Nat) : Int)) sh sg sm := by
        rw [f1 i_o.toNat (Or.inl (by omega))]
        refine hwr.upd (fun q_o hq => f1 q_o (Or.inl (by omega))) (fun q_o hq => f2 q_o (Or.inl hq)) ⟨by rw [cc3, htm1], by omega, fun q_o hq => ?_⟩
        rw [f5, htm1]
        unfold kup
        split
        · rfl
        · exact htm3 q_o (by omega)
      have hrun := m_run_N (d := d_o) (L := L_o) (O := O_o) hn hr2 hr3 hr4
      unfold m_nd at hrun
      generalize (m_gs g_o r_o k_o lx (m_lr g_o r_o i_o j_o O_o)) = O1 at *
      have hcol1 : ∀ p_o : Nat, i_o ≤ (p_o : Int) → (p_o : Int) ≤ j_o → O1.2.2.1 p_o = y_o := fun q_o q1 q2 => by rw [f3 q_o q1 q2, hcol q_o q1 q2, hy]
      have hdp1 : u_o = (if O1.2.2.2.2.1 < L_o + 1 then L_o + 1 else O1.2.2.2.2.1) := by rw [hu, hdp, f4]; (repeat' split) <;> omega
      rcases hr9 with ⟨a1, a2, a3, a4, a5, a6, a7⟩ | ⟨a1, a2, a3, a4, a5, a6, a7, a8⟩ | ⟨a1, a2, a3, a4, a5, a6, a7, a8, a9⟩
      · rw [if_pos a1, a3] at hrun
        have hm1 := m_M_1 (i := i_o) (j := j_o) hn a5 (by omega) a6
        refine k_aload_n h_o 0 dX7_walks_82 rfl rfl ?_
        refine k_get h_o 19 kf_X7_16 hmd1.1 rfl dX7_walks_83 ?_
        refine k_iload h_o 6 dX7_walks_86 rfl ?_
        refine k_iald h_o 22 hmd1.2.2.2.1 (by omega) (by decide) dX7_walks_88 ?_
        refine k_top (z' := mnA r_o) (by rw [Int.toNat_natCast]) ?_
        refine k_iconst h_o dX7_walks_89 ?_
        refine k_icmp_ne h_o 113 (by omega) (by decide) dX7_walks_90 (by decide) (fun h90_o => ?_) (fun h90_o => ?_)
        · exfalso; omega
        · refine k_aload_n h_o 0 dX7_walks_93 rfl rfl ?_
          refine k_aload_n h_o 0 dX7_walks_94 rfl rfl ?_
          refine k_get h_o 19 kf_X7_13 hmd1.1 rfl dX7_walks_95 ?_
          refine k_iload h_o 8 dX7_walks_98 rfl ?_
          refine k_iald h_o 21 hmd1.2.2.1 (by omega) (by decide) dX7_walks_100 ?_
          refine k_top (z' := g_o 2 r_o) (by rw [m_rt_0 (by omega), Int.toNat_natCast]) ?_
          refine k_iload_n h_o 2 dX7_walks_101 rfl rfl ?_
          refine k_iload_n h_o 3 dX7_walks_102 rfl rfl ?_
          refine k_iload h_o 4 dX7_walks_103 rfl ?_
          refine k_iconst h_o dX7_walks_105 ?_
          refine k_iadd h_o dX7_walks_106 ?_
          refine k_iload h_o 7 dX7_walks_107 rfl ?_
          have hk1 : (kWk (kset (kset (kset w_o 38 (bd 18) (ai 100 (kup tr tm.toNat ((r_o : Nat) : Int)))) 19 (bd 25) (ob 9 [.ref (bd 0), .ref (bd 1), .ref (bd 2), .ref (bd 3), .ref (bd 4), .ref (bd 5), .ref (bd 6), .int (iI ((nr : Nat) : Int)), .ref (bd 8), .ref (bd 9), .ref (bd 10), .ref (bd 11), .int (iI ((T_o : Nat) : Int)), .long (lI fnd), .int (iI rel), .ref (bd 15), .int (iI sz), .ref (bd 17), .ref (bd 18), .int (iI (tm + 1)), .ref (bd 20), .ref (bd 21), .int (iI sm), .int (iI dp), .int (iI th)])) 19 (bd 25) (ob 9 [.ref (bd 0), .ref (bd 1), .ref (bd 2), .ref (bd 3), .ref (bd 4), .ref (bd 5), .ref (bd 6), .int (iI ((nr : Nat) : Int)), .ref (bd 8), .ref (bd 9), .ref (bd 10), .ref (bd 11), .int (iI ((T_o : Nat) : Int)), .long (lI fnd), .int (iI rel), .ref (bd 15), .int (iI sz), .ref (bd 17), .ref (bd 18), .int (iI (tm + 1)), .ref (bd 20), .ref (bd 21), .int (iI sm), .int (iI u_o), .int (iI th)])) bd nr g_o T_o cs ams ltA acA mnA rel fnd sz rx N_o (tm + 1) (kup tr tm.toNat ((r_o : Nat) : Int)) sh sg sm u_o th O1 (g_o 2 r_o) i_o j_o (L_o + 1) y_o c_o d_o) := ⟨hmd1, hrx, hN_o, hwf, hnr, hmn, hT, hc_o, a5, hij, a7, (by omega), (by omega), (by omega), cc5, hwr1, hdp1, hcol1⟩
          refine k_callV (As := [.int (iI (g_o 2 r_o)), .int (iI i_o), .int (iI j_o), .int (iI ((L_o + 1) + 1)), .int (iI y_o)]) (rest := []) h_o mX7_sees kq_5_95 (hSe hk1) 19 hmd1.1 rfl rfl rfl (Nat.le_of_ble_eq_true rfl) ⟨rfl, rfl, ⟨by show 2 * d_o + 8 + 1 ≤ 2 * d_o + 9; omega, by show 8 + (6 + 11) + (55 * d_o + 200) ≤ 55 * d_o + 225; omega⟩, ⟨(Nat.le_of_ble_eq_true rfl), (Nat.le_of_ble_eq_true rfl)⟩⟩ dX7_walks_109 (kcV fun wq2 hp => ?_)
          obtain ⟨tmq2, trq2, shq2, sgq2, smq2, hmdq2, hwrq2, hexq2⟩ := hp
          exact k_vret h_o hr (⟨rfl, tmq2, trq2, shq2, sgq2, smq2, (by rw [hrun]; exact hmdq2), (by rw [hrun]; exact hwrq2), (fun x_o hx => ((hexq2 x_o hx).trans ((kset_ne (by omega)).trans ((kset_ne (by omega)).trans ((kset_ne (by omega)).trans rfl)))))⟩) (by omega) (by omega) dX7_walks_112
      · rw [if_neg (m_sym1 a1), if_pos a2, a5] at hrun
        have rM1 := m_M_rg a6 a3
        have rM2 := m_M_rg (i := k_o + 1) (j := j_o) a1 (by omega)
        refine k_aload_n h_o 0 dX7_walks_82 rfl rfl ?_
        refine k_get h_o 19 kf_X7_16 hmd1.1 rfl dX7_walks_83 ?_
        refine k_iload h_o 6 dX7_walks_86 rfl ?_
        refine k_iald h_o 22 hmd1.2.2.2.1 (by omega) (by decide) dX7_walks_88 ?_
        refine k_top (z' := mnA r_o) (by rw [Int.toNat_natCast]) ?_
        refine k_iconst h_o dX7_walks_89 ?_
        refine k_icmp_ne h_o 113 (by omega) (by decide) dX7_walks_90 (by decide) (fun h90_o => ?_) (fun h90_o => ?_)
        · refine k_aload_n h_o 0 dX7_walks_113 rfl rfl ?_
          refine k_get h_o 19 kf_X7_16 hmd1.1 rfl dX7_walks_114 ?_
          refine k_iload h_o 6 dX7_walks_117 rfl ?_
          refine k_iald h_o 22 hmd1.2.2.2.1 (by omega) (by decide) dX7_walks_119 ?_
          refine k_top (z' := mnA r_o) (by rw [Int.toNat_natCast]) ?_
          refine k_iconst h_o dX7_walks_120 ?_
          refine k_icmp_ne h_o 199 (by omega) (by decide) dX7_walks_121 (by decide) (fun h121_o => ?_) (fun h121_o => ?_)
          · exfalso; omega
          · refine k_aload_n h_o 0 dX7_walks_124 rfl rfl ?_
            refine k_aload_n h_o 0 dX7_walks_125 rfl rfl ?_
            refine k_get h_o 19 kf_X7_13 hmd1.1 rfl dX7_walks_126 ?_
            refine k_iload h_o 8 dX7_walks_129 rfl ?_
            refine k_iald h_o 21 hmd1.2.2.1 (by omega) (by decide) dX7_walks_131 ?_
            refine k_top (z' := g_o 2 r_o) (by rw [m_rt_0 (by omega), Int.toNat_natCast]) ?_
            refine k_aload_n h_o 0 dX7_walks_132 rfl rfl ?_
            refine k_get h_o 19 kf_X7_13 hmd1.1 rfl dX7_walks_133 ?_
            refine k_iload h_o 8 dX7_walks_136 rfl ?_
            refine k_iconst h_o dX7_walks_138 ?_
            refine k_iadd h_o dX7_walks_139 ?_
            refine k_iald h_o 21 hmd1.2.2.1 (by omega) (by decide) dX7_walks_140 ?_
            refine k_top (z' := g_o 3 r_o) (by rw [m_rt_1 (by omega), Int.toNat_natCast]) ?_
            refine k_iload_n h_o 2 dX7_walks_141 rfl rfl ?_
            refine k_iload_n h_o 3 dX7_walks_142 rfl rfl ?_
            refine k_callV (As := [.int (iI (g_o 2 r_o)), .int (iI (g_o 3 r_o)), .int (iI i_o), .int (iI j_o)]) (rest := []) h_o mX7_cut kq_5_99 (c_X7_cut hl0 (k0 := k_o) hmd1 hrx hN_o a6 a1 (by omega) (by omega) ⟨a3, a4⟩ ⟨(by rw [m_part_ag hag a6 (by omega) a3 (by omega)]; exact a7), (by rw [m_part_ag hag a1 (by omega) (by omega) (by omega)]; exact a8)⟩) 19 hmd1.1 rfl rfl rfl (Nat.le_of_ble_eq_true rfl) ⟨rfl, rfl, ⟨by show 3 + 1 ≤ 2 * d_o + 9; omega, by show 8 + (6 + 11) + (68) ≤ 55 * d_o + 225; omega⟩, ⟨(Nat.le_of_ble_eq_true rfl), (Nat.le_of_ble_eq_true rfl)⟩⟩ dX7_walks_143 (kcI fun z143_o w143_o hp => ?_)
            obtain ⟨rfl, rfl⟩ := hp
            refine k_top (z' := k_o) (by have e_o := (m_sk_ag hag (m_wf_w3 hr7) (by omega)).trans hr3; unfold m_sk at e_o; rw [if_neg (m_sym1 a1), if_pos a2] at e_o; exact e_o) ?_
            refine k_istore (lv' := [(9, .int (iI k_o)), (0, .ref (bd 25)), (1, .int (iI s_o)), (2, .int (iI i_o)), (3, .int (iI j_o)), (4, .int (iI (L_o + 1))), (5, .int (iI a_o)), (6, .int (iI ((r_o : Nat) : Int))), (7, .int (iI y_o)), (8, .int (iI (3 * ((r_o : Nat) : Int))))]) h_o dX7_walks_146 (by decide) rfl ?_
            refine k_aload_n h_o 1 dX7_walks_148 rfl rfl ?_
            refine k_aload_n h_o 1 dX7_walks_149 rfl rfl ?_
            refine k_get h_o 19 kf_X7_13 hmd1.1 rfl dX7_walks_150 ?_
            refine k_iload h_o 9 dX7_walks_153 rfl ?_
            refine k_iald h_o 21 hmd1.2.2.1 (by omega) (by decide) dX7_walks_155 ?_
            refine k_top (z' := g_o 2 r_o) (by rw [m_rt_0 (by omega), Int.toNat_natCast]) ?_
            refine k_iload_n h_o 3 dX7_walks_156 rfl rfl ?_
            refine k_iload h_o 0 dX7_walks_157 rfl ?_
            refine k_iload h_o 5 dX7_walks_159 rfl ?_
            refine k_iconst h_o dX7_walks_161 ?_
            refine k_iadd h_o dX7_walks_162 ?_
            refine k_iload h_o 8 dX7_walks_163 rfl ?_
            have hk3 : (kWk (kset (kset (kset w_o 38 (bd 18) (ai 100 (kup tr tm.toNat ((r_o : Nat) : Int)))) 19 (bd 25) (ob 9 [.ref (bd 0), .ref (bd 1), .ref (bd 2), .ref (bd 3), .ref (bd 4), .ref (bd 5), .ref (bd 6), .int (iI ((nr : Nat) : Int)), .ref (bd 8), .ref (bd 9), .ref (bd 10), .ref (bd 11), .int (iI ((T_o : Nat) : Int)), .long (lI fnd), .int (iI rel), .ref (bd 15), .int (iI sz), .ref (bd 17), .ref (bd 18), .int (iI (tm + 1)), .ref (bd 20), .ref (bd 21), .int (iI sm), .int (iI dp), .int (iI th)])) 19 (bd 25) (ob 9 [.ref (bd 0), .ref (bd 1), .ref (bd 2), .ref (bd 3), .ref (bd 4), .ref (bd 5), .ref (bd 6), .int (iI ((nr : Nat) : Int)), .ref (bd 8), .ref (bd 9), .ref (bd 10), .ref (bd 11), .int (iI ((T_o : Nat) : Int)), .long (lI fnd), .int (iI rel), .ref (bd 15), .int (iI sz), .ref (bd 17), .ref (bd 18), .int (iI (tm + 1)), .ref (bd 20), .ref (bd 21), .int (iI sm), .int (iI u_o), .int (iI th)])) bd nr g_o T_o cs ams ltA acA mnA rel fnd sz rx N_o (tm + 1) (kup tr tm.toNat ((r_o : Nat) : Int)) sh sg sm u_o th O1 (g_o 2 r_o) i_o k_o (L_o + 1) y_o c_o d_o) := ⟨hmd1, hrx, hN_o, hwf, hnr, hmn, hT, hc_o, a6, ⟨hij.1, a3, (by omega)⟩, a7, (by omega), (by omega), (by omega), cc5, hwr1, hdp1, (fun p_o q1 q2 => hcol1 p_o q1 (by omega))⟩
            refine k_callV (As := [.int (iI (g_o 2 r_o)), .int (iI i_o), .int (iI k_o), .int (iI ((L_o + 1) + 1)), .int (iI y_o)]) (rest := []) h_o mX7_sees kq_5_95 (hSe hk3) 19 hmd1.1 rfl rfl rfl (Nat.le_of_ble_eq_true rfl) ⟨rfl, rfl, ⟨by show 2 * d_o + 8 + 1 ≤ 2 * d_o + 9; omega, by show 8 + (6 + 11) + (55 * d_o + 200) ≤ 55 * d_o + 225; omega⟩, ⟨(Nat.le_of_ble_eq_true rfl), (Nat.le_of_ble_eq_true rfl)⟩⟩ dX7_walks_165 (kcV fun wq4 hp => ?_)
            obtain ⟨tmq4, trq4, shq4, sgq4, smq4, hmdq4, hwrq4, hexq4⟩ := hp
            obtain ⟨x1, x2, x3, x4, _⟩ := m_run_fr hwf d_o (g_o 2 r_o) i_o k_o (L_o + 1) O1 a6 (by omega) (by omega) (by omega) a7 (by omega)
            have xc := m_run_cnt hwf d_o (g_o 2 r_o) i_o k_o (L_o + 1) O1 a6 (by omega) (by omega) a7 (by omega)
            have xo := kOi_run hwf hnr d_o (g_o 2 r_o) i_o k_o (L_o + 1) O1 a6 (by omega) (by omega) a7 (by omega) (by omega) (by omega) cc5
            generalize m_run g_o nr rx d_o (g_o 2 r_o) i_o k_o (L_o + 1) O1 = O2 at *
            have O2g := x1
            have O2k := x2
            have O2d := x3
            have O2l := x4
            have O2c := xc
            have O2i := xo
            clear x1 x2 x3 x4 xc xo
            have hsmO2 := hwrq4.sm0 O2i (by omega)
            refine k_aload_n h_o 1 dX7_walks_168 rfl rfl ?_
            refine k_iload h_o 7 dX7_walks_169 rfl ?_
            refine k_callV (As := [.int (iI ((r_o : Nat) : Int))]) (rest := []) h_o mX7_blanks kq_5_103 (c_X7_blanks hl0 hmdq4 (by omega) hg7 hsmO2) 19 hmdq4.1 rfl rfl rfl (Nat.le_of_ble_eq_true rfl) ⟨rfl, rfl, ⟨by show 0 + 1 ≤ 2 * d_o + 9; omega, by show 8 + (3 + 11) + (0) ≤ 55 * d_o + 225; omega⟩, ⟨(Nat.le_of_ble_eq_true rfl), (Nat.le_of_ble_eq_true rfl)⟩⟩ dX7_walks_171 (kcV fun wq5 hp => ?_)
            obtain ⟨hmdq5, hexq5⟩ := hp
            have hwrO2 := hwrq4.blank (b := g_o 7 r_o) O2i (by omega) hg7.1
            have hgpO2 : O2.2.2.2.1 (k_o + 1).toNat = g_o 7 r_o := (O2g _ (Or.inr (by omega))).trans (f6 (m_sym1 a1))
            rw [← hgpO2] at hwrO2
            have hmdGO2 := hmdq5
            rw [← hgpO2] at hmdGO2
            refine k_aload_n h_o 1 dX7_walks_174 rfl rfl ?_
            refine k_aload_n h_o 1 dX7_walks_175 rfl rfl ?_
            refine k_get h_o 19 kf_X7_13 hmdGO2.1 rfl dX7_walks_176 ?_
            refine k_iload h_o 9 dX7_walks_179 rfl ?_
            refine k_iconst h_o dX7_walks_181 ?_
            refine k_iadd h_o dX7_walks_182 ?_
            refine k_iald h_o 21 hmdGO2.2.2.1 (by omega) (by decide) dX7_walks_183 ?_
            refine k_top (z' := g_o 3 r_o) (by rw [m_rt_1 (by omega), Int.toNat_natCast]) ?_
            refine k_iload h_o 0 dX7_walks_184 rfl ?_
            refine k_iconst h_o dX7_walks_186 ?_
            refine k_iadd h_o dX7_walks_187 ?_
            refine k_iload_n h_o 4 dX7_walks_188 rfl rfl ?_
            refine k_iload h_o 5 dX7_walks_189 rfl ?_
            refine k_iconst h_o dX7_walks_191 ?_
            refine k_iadd h_o dX7_walks_192 ?_
            refine k_iload h_o 8 dX7_walks_193 rfl ?_
            have hk6 : (kWk wq5 bd nr g_o T_o cs ams ltA acA mnA rel fnd sz rx N_o tmq4 trq4 shq4 (m_col sgq4 smq4 (smq4 + O2.2.2.2.1 (k_o + 1).toNat - 1) 32) (smq4 + O2.2.2.2.1 (k_o + 1).toNat) O2.2.2.2.2.1 th O2 (g_o 3 r_o) (k_o + 1) j_o (L_o + 1) y_o c_o d_o) := ⟨hmdGO2, hrx, hN_o, hwf, hnr, hmn, hT, hc_o, a1, ⟨(by omega), (by omega), hij.2.2⟩, a8, (by omega), (by omega), (by omega), O2i, hwrO2, (by rw [if_neg (by omega)]), (fun p_o q1 q2 => (O2k p_o (Or.inr (by omega))).trans (hcol1 p_o (by omega) q2))⟩
            refine k_callV (As := [.int (iI (g_o 3 r_o)), .int (iI (k_o + 1)), .int (iI j_o), .int (iI ((L_o + 1) + 1)), .int (iI y_o)]) (rest := []) h_o mX7_sees kq_5_95 (hSe hk6) 19 hmdGO2.1 rfl rfl rfl (Nat.le_of_ble_eq_true rfl) ⟨rfl, rfl, ⟨by show 2 * d_o + 8 + 1 ≤ 2 * d_o + 9; omega, by show 8 + (6 + 11) + (55 * d_o + 200) ≤ 55 * d_o + 225; omega⟩, ⟨(Nat.le_of_ble_eq_true rfl), (Nat.le_of_ble_eq_true rfl)⟩⟩ dX7_walks_195 (kcV fun wq7 hp => ?_)
            obtain ⟨tmq7, trq7, shq7, sgq7, smq7, hmdq7, hwrq7, hexq7⟩ := hp
            exact k_vret h_o hr (⟨rfl, tmq7, trq7, shq7, sgq7, smq7, (by rw [hrun]; exact hmdq7), (by rw [hrun]; exact hwrq7), (fun x_o hx => ((hexq7 x_o hx).trans ((hexq5 x_o hx).trans ((hexq4 x_o hx).trans ((kset_ne (by omega)).trans ((kset_ne (by omega)).trans ((kset_ne (by omega)).trans rfl)))))))⟩) (by omega) (by omega) dX7_walks_198
        · exfalso; omega
      · rw [if_neg (m_sym1 a1), if_neg (m_sym1 a2)] at hrun
        have rM1 := m_M_rg a6 a3
        have rM2 := m_M_rg (i := k_o + 1) (j := lx) a1 (by omega)
        have rM3 := m_M_rg (i := lx + 1) (j := j_o) a2 (by omega)
        refine k_aload_n h_o 0 dX7_walks_82 rfl rfl ?_
        refine k_get h_o 19 kf_X7_16 hmd1.1 rfl dX7_walks_83 ?_
        refine k_iload h_o 6 dX7_walks_86 rfl ?_
        refine k_iald h_o 22 hmd1.2.2.2.1 (by omega) (by decide) dX7_walks_88 ?_
        refine k_top (z' := mnA r_o) (by rw [Int.toNat_natCast]) ?_
        refine k_iconst h_o dX7_walks_89 ?_
        refine k_icmp_ne h_o 113 (by omega) (by decide) dX7_walks_90 (by decide) (fun h90_o => ?_) (fun h90_o => ?_)
        · refine k_aload_n h_o 0 dX7_walks_113 rfl rfl ?_
          refine k_get h_o 19 kf_X7_16 hmd1.1 rfl dX7_walks_114 ?_
          refine k_iload h_o 6 dX7_walks_117 rfl ?_
          refine k_iald h_o 22 hmd1.2.2.2.1 (by omega) (by decide) dX7_walks_119 ?_
          refine k_top (z' := mnA r_o) (by rw [Int.toNat_natCast]) ?_
          refine k_iconst h_o dX7_walks_120 ?_
          refine k_icmp_ne h_o 199 (by omega) (by decide) dX7_walks_121 (by decide) (fun h121_o => ?_) (fun h121_o => ?_)
          · have hP3 : 0 < m_part (m_Cn N_o) rx (g_o 2 r_o) i_o k_o ∧ 0 < m_two (m_Cn N_o) rx (g_o 3 r_o) (g_o 4 r_o) (k_o + 1) j_o := ⟨(by rw [m_part_ag hag a6 (by omega) a3 (by omega)]; exact a7), m_S_pos.mpr ⟨lx, a4, a5, Nat.mul_pos (by rw [m_part_ag hag a1 (by omega) (by omega) (by omega)]; exact a8) (by rw [m_part_ag hag a2 (by omega) (by omega) (by omega)]; exact a9)⟩⟩
            refine k_iload_n h_o 2 dX7_walks_199 rfl rfl ?_
            refine k_istore (lv' := [(9, .int (iI i_o)), (0, .ref (bd 25)), (1, .int (iI s_o)), (2, .int (iI i_o)), (3, .int (iI j_o)), (4, .int (iI (L_o + 1))), (5, .int (iI a_o)), (6, .int (iI ((r_o : Nat) : Int))), (7, .int (iI y_o)), (8, .int (iI (3 * ((r_o : Nat) : Int))))]) h_o dX7_walks_200 (by decide) rfl ?_
            have L202 : ∀ (mm : Nat) (z_o : Int), (i_o ≤ z_o ∧ z_o ≤ k_o) → (∀ v_o : Int, i_o ≤ v_o → v_o < z_o → ¬ (0 < m_part (m_Cn N_o) rx (g_o 2 r_o) i_o v_o ∧ 0 < m_two (m_Cn N_o) rx (g_o 3 r_o) (g_o 4 r_o) (v_o + 1) j_o)) → (k_o + 1 - z_o < (mm : Int)) → kG E_o X_o 11 0 0 (kset (kset (kset w_o 38 (bd 18) (ai 100 (kup tr tm.toNat ((r_o : Nat) : Int)))) 19 (bd 25) (ob 9 [.ref (bd 0), .ref (bd 1), .ref (bd 2), .ref (bd 3), .ref (bd 4), .ref (bd 5), .ref (bd 6), .int (iI ((nr : Nat) : Int)), .ref (bd 8), .ref (bd 9), .ref (bd 10), .ref (bd 11), .int (iI ((T_o : Nat) : Int)), .long (lI fnd), .int (iI rel), .ref (bd 15), .int (iI sz), .ref (bd 17), .ref (bd 18), .int (iI (tm + 1)), .ref (bd 20), .ref (bd 21), .int (iI sm), .int (iI dp), .int (iI th)])) 19 (bd 25) (ob 9 [.ref (bd 0), .ref (bd 1), .ref (bd 2), .ref (bd 3), .ref (bd 4), .ref (bd 5), .ref (bd 6), .int (iI ((nr : Nat) : Int)), .ref (bd 8), .ref (bd 9), .ref (bd 10), .ref (bd 11), .int (iI ((T_o : Nat) : Int)), .long (lI fnd), .int (iI rel), .ref (bd 15), .int (iI sz), .ref (bd 17), .ref (bd 18), .int (iI (tm + 1)), .ref (bd 20), .ref (bd 21), .int (iI sm), .int (iI u_o), .int (iI th)])) 202 [(0, .ref (bd 25)), (1, .int (iI s_o)), (2, .int (iI i_o)), (3, .int (iI j_o)), (4, .int (iI (L_o + 1))), (5, .int (iI a_o)), (6, .int (iI ((r_o : Nat) : Int))), (7, .int (iI y_o)), (8, .int (iI (3 * ((r_o : Nat) : Int)))), (9, .int (iI z_o))] [] := by
              intro mm
              induction mm with
              | zero =>
                intro z_o hz hno hm_o
                exfalso; omega
              | succ mm ih202 =>
                intro z_o hz hno hm_o
                refine k_aload_n h_o 0 dX7_walks_202 rfl rfl ?_
                refine k_aload_n h_o 0 dX7_walks_203 rfl rfl ?_
                refine k_get h_o 19 kf_X7_13 hmd1.1 rfl dX7_walks_204 ?_
                refine k_iload h_o 8 dX7_walks_207 rfl ?_
                refine k_iald h_o 21 hmd1.2.2.1 (by omega) (by decide) dX7_walks_209 ?_
                refine k_top (z' := g_o 2 r_o) (by rw [m_rt_0 (by omega), Int.toNat_natCast]) ?_
                refine k_iload_n h_o 2 dX7_walks_210 rfl rfl ?_
                refine k_iload h_o 9 dX7_walks_211 rfl ?_
                refine k_callV (As := [.int (iI (g_o 2 r_o)), .int (iI i_o), .int (iI z_o)]) (rest := []) h_o mX7_part kq_5_36 (c_X7_part hl0 hmd1 hrx (by omega) (by omega) (by omega)) 19 hmd1.1 rfl rfl rfl (Nat.le_of_ble_eq_true rfl) ⟨rfl, rfl, ⟨by show 2 + 1 ≤ 2 * d_o + 9; omega, by show 8 + (4 + 11) + (45) ≤ 55 * d_o + 225; omega⟩, ⟨(Nat.le_of_ble_eq_true rfl), (Nat.le_of_ble_eq_true rfl)⟩⟩ dX7_walks_213 (kcI fun z213_o w213_o hp => ?_)
                obtain ⟨rfl, rfl⟩ := hp
                refine k_ifeq h_o 249 (m_natrg (m_pC_le hN_o)) dX7_walks_216 (by decide) (fun h216_o => ?_) (fun h216_o => ?_)
                · refine k_iinc (lv' := [(9, .int (iI (z_o + 1))), (0, .ref (bd 25)), (1, .int (iI s_o)), (2, .int (iI i_o)), (3, .int (iI j_o)), (4, .int (iI (L_o + 1))), (5, .int (iI a_o)), (6, .int (iI ((r_o : Nat) : Int))), (7, .int (iI y_o)), (8, .int (iI (3 * ((r_o : Nat) : Int))))]) h_o 9 dX7_walks_249 rfl (by decide) rfl ?_
                  refine k_goto h_o 202 dX7_walks_252 (by decide) ?_
                  refine k_sub (lv' := [(0, .ref (bd 25)), (1, .int (iI s_o)), (2, .int (iI i_o)), (3, .int (iI j_o)), (4, .int (iI (L_o + 1))), (5, .int (iI a_o)), (6, .int (iI ((r_o : Nat) : Int))), (7, .int (iI y_o)), (8, .int (iI (3 * ((r_o : Nat) : Int)))), (9, .int (iI (z_o + 1)))]) [1, 2, 3, 4, 5, 6, 7, 8, 9, 0] rfl ?_
                  exact ih202 (z_o + 1) (by rcases Int.lt_or_eq_of_le hz.2 with q_o | q_o; omega; exfalso; subst q_o; have q1 := hP3.1; have q2 := m_cap_pos.mpr hP3.2; omega) (fun v_o q1 q2 => by by_cases e_o : v_o = z_o; subst e_o; intro q_o; have q3 := q_o.1; have q4 := m_cap_pos.mpr q_o.2; omega; exact hno v_o q1 (by omega)) (by omega)
                · refine k_aload_n h_o 0 dX7_walks_219 rfl rfl ?_
                  refine k_aload_n h_o 0 dX7_walks_220 rfl rfl ?_
                  refine k_get h_o 19 kf_X7_13 hmd1.1 rfl dX7_walks_221 ?_
                  refine k_iload h_o 8 dX7_walks_224 rfl ?_
                  refine k_iconst h_o dX7_walks_226 ?_
                  refine k_iadd h_o dX7_walks_227 ?_
                  refine k_iald h_o 21 hmd1.2.2.1 (by omega) (by decide) dX7_walks_228 ?_
                  refine k_top (z' := g_o 3 r_o) (by rw [m_rt_1 (by omega), Int.toNat_natCast]) ?_
                  refine k_aload_n h_o 0 dX7_walks_229 rfl rfl ?_
                  refine k_get h_o 19 kf_X7_13 hmd1.1 rfl dX7_walks_230 ?_
                  refine k_iload h_o 8 dX7_walks_233 rfl ?_
                  refine k_iconst h_o dX7_walks_235 ?_
                  refine k_iadd h_o dX7_walks_236 ?_
                  refine k_iald h_o 21 hmd1.2.2.1 (by omega) (by decide) dX7_walks_237 ?_
                  refine k_top (z' := g_o 4 r_o) (by rw [m_rt_2 (by omega), Int.toNat_natCast]) ?_
                  refine k_iload h_o 9 dX7_walks_238 rfl ?_
                  refine k_iconst h_o dX7_walks_240 ?_
                  refine k_iadd h_o dX7_walks_241 ?_
                  refine k_iload_n h_o 3 dX7_walks_242 rfl rfl ?_
                  refine k_callV (As := [.int (iI (g_o 3 r_o)), .int (iI (g_o 4 r_o)), .int (iI (z_o + 1)), .int (iI j_o)]) (rest := []) h_o mX7_twoParts kq_5_40 (c_X7_twoParts hl0 hmd1 hrx hN_o (by omega) (by omega) (by omega) (by omega)) 19 hmd1.1 rfl rfl rfl (Nat.le_of_ble_eq_true rfl) ⟨rfl, rfl, ⟨by show 3 + 1 ≤ 2 * d_o + 9; omega, by show 8 + (7 + 11) + (68) ≤ 55 * d_o + 225; omega⟩, ⟨(Nat.le_of_ble_eq_true rfl), (Nat.le_of_ble_eq_true rfl)⟩⟩ dX7_walks_243 (kcI fun z243_o w243_o hp => ?_)
                  obtain ⟨rfl, rfl⟩ := hp
                  refine k_ifne h_o 255 (m_natrg (m_cap_le _)) dX7_walks_246 (by decide) (fun h246_o => ?_) (fun h246_o => ?_)
                  · have hzk : z_o = k_o := by
                      have e_o := (m_sk_ag hag (m_wf_w3 hr7) (by omega)).trans hr3
                      unfold m_sk at e_o
                      rw [if_neg (m_sym1 a1), if_neg (m_sym1 a2), m_fs_eq (P := fun k_o => 0 < m_part (m_Cn N_o) rx (g_o 2 r_o) i_o k_o ∧ 0 < m_two (m_Cn N_o) rx (g_o 3 r_o) (g_o 4 r_o) (k_o + 1) j_o) (k := z_o) hz.1 (by omega) ⟨by omega, m_cap_pos.mp (by omega)⟩ hno] at e_o
                      exact e_o
                    refine k_sub (lv' := [(0, .ref (bd 25)), (1, .int (iI s_o)), (2, .int (iI i_o)), (3, .int (iI j_o)), (4, .int (iI (L_o + 1))), (5, .int (iI a_o)), (6, .int (iI ((r_o : Nat) : Int))), (7, .int (iI y_o)), (8, .int (iI (3 * ((r_o : Nat) : Int)))), (9, .int (iI z_o))]) [0, 1, 2, 3, 4, 5, 6, 7, 8, 9] rfl ?_
                    rw [hzk]
                    refine k_aload_n h_o 0 dX7_walks_255 rfl rfl ?_
                    refine k_aload_n h_o 0 dX7_walks_256 rfl rfl ?_
                    refine k_get h_o 19 kf_X7_13 hmd1.1 rfl dX7_walks_257 ?_
                    refine k_iload h_o 8 dX7_walks_260 rfl ?_
                    refine k_iconst h_o dX7_walks_262 ?_
                    refine k_iadd h_o dX7_walks_263 ?_
                    refine k_iald h_o 21 hmd1.2.2.1 (by omega) (by decide) dX7_walks_264 ?_
                    refine k_top (z' := g_o 3 r_o) (by rw [m_rt_1 (by omega), Int.toNat_natCast]) ?_
                    refine k_aload_n h_o 0 dX7_walks_265 rfl rfl ?_
                    refine k_get h_o 19 kf_X7_13 hmd1.1 rfl dX7_walks_266 ?_
                    refine k_iload h_o 8 dX7_walks_269 rfl ?_
                    refine k_iconst h_o dX7_walks_271 ?_
                    refine k_iadd h_o dX7_walks_272 ?_
                    refine k_iald h_o 21 hmd1.2.2.1 (by omega) (by decide) dX7_walks_273 ?_
                    refine k_top (z' := g_o 4 r_o) (by rw [m_rt_2 (by omega), Int.toNat_natCast]) ?_
                    refine k_iload h_o 9 dX7_walks_274 rfl ?_
                    refine k_iconst h_o dX7_walks_276 ?_
                    refine k_iadd h_o dX7_walks_277 ?_
                    refine k_iload_n h_o 3 dX7_walks_278 rfl rfl ?_
                    refine k_callV (As := [.int (iI (g_o 3 r_o)), .int (iI (g_o 4 r_o)), .int (iI (k_o + 1)), .int (iI j_o)]) (rest := []) h_o mX7_cut kq_5_99 (c_X7_cut hl0 (k0 := lx) hmd1 hrx hN_o a1 a2 (by omega) (by omega) ⟨a4, a5⟩ ⟨(by rw [m_part_ag hag a1 (by omega) a4 (by omega)]; exact a8), (by rw [m_part_ag hag a2 (by omega) (by omega) (by omega)]; exact a9)⟩) 19 hmd1.1 rfl rfl rfl (Nat.le_of_ble_eq_true rfl) ⟨rfl, rfl, ⟨by show 3 + 1 ≤ 2 * d_o + 9; omega, by show 8 + (6 + 11) + (68) ≤ 55 * d_o + 225; omega⟩, ⟨(Nat.le_of_ble_eq_true rfl), (Nat.le_of_ble_eq_true rfl)⟩⟩ dX7_walks_279 (kcI fun z279_o w279_o hp => ?_)
                    obtain ⟨rfl, rfl⟩ := hp
                    refine k_top (z' := lx) (by have e_o := (m_sl_ag hag (m_wf_w3 hr7) (by omega)).trans hr4; have e2 := (m_sk_ag hag (m_wf_w3 hr7) (by omega)).trans hr3; unfold m_sl at e_o; rw [if_neg (m_sym1 a1), if_neg (m_sym1 a2), e2] at e_o; exact e_o) ?_
                    refine k_istore (lv' := [(10, .int (iI lx)), (0, .ref (bd 25)), (1, .int (iI s_o)), (2, .int (iI i_o)), (3, .int (iI j_o)), (4, .int (iI (L_o + 1))), (5, .int (iI a_o)), (6, .int (iI ((r_o : Nat) : Int))), (7, .int (iI y_o)), (8, .int (iI (3 * ((r_o : Nat) : Int)))), (9, .int (iI k_o))]) h_o dX7_walks_282 (by decide) rfl ?_
                    refine k_aload_n h_o 1 dX7_walks_284 rfl rfl ?_
                    refine k_aload_n h_o 1 dX7_walks_285 rfl rfl ?_
                    refine k_get h_o 19 kf_X7_13 hmd1.1 rfl dX7_walks_286 ?_
                    refine k_iload h_o 9 dX7_walks_289 rfl ?_
                    refine k_iald h_o 21 hmd1.2.2.1 (by omega) (by decide) dX7_walks_291 ?_
                    refine k_top (z' := g_o 2 r_o) (by rw [m_rt_0 (by omega), Int.toNat_natCast]) ?_
                    refine k_iload_n h_o 3 dX7_walks_292 rfl rfl ?_
                    refine k_iload h_o 10 dX7_walks_293 rfl ?_
                    refine k_iload h_o 5 dX7_walks_295 rfl ?_
                    refine k_iconst h_o dX7_walks_297 ?_
                    refine k_iadd h_o dX7_walks_298 ?_
                    refine k_iload h_o 8 dX7_walks_299 rfl ?_
                    have hk8 : (kWk (kset (kset (kset w_o 38 (bd 18) (ai 100 (kup tr tm.toNat ((r_o : Nat) : Int)))) 19 (bd 25) (ob 9 [.ref (bd 0), .ref (bd 1), .ref (bd 2), .ref (bd 3), .ref (bd 4), .ref (bd 5), .ref (bd 6), .int (iI ((nr : Nat) : Int)), .ref (bd 8), .ref (bd 9), .ref (bd 10), .ref (bd 11), .int (iI ((T_o : Nat) : Int)), .long (lI fnd), .int (iI rel), .ref (bd 15), .int (iI sz), .ref (bd 17), .ref (bd 18), .int (iI (tm + 1)), .ref (bd 20), .ref (bd 21), .int (iI sm), .int (iI dp), .int (iI th)])) 19 (bd 25) (ob 9 [.ref (bd 0), .ref (bd 1), .ref (bd 2), .ref (bd 3), .ref (bd 4), .ref (bd 5), .ref (bd 6), .int (iI ((nr : Nat) : Int)), .ref (bd 8), .ref (bd 9), .ref (bd 10), .ref (bd 11), .int (iI ((T_o : Nat) : Int)), .long (lI fnd), .int (iI rel), .ref (bd 15), .int (iI sz), .ref (bd 17), .ref (bd 18), .int (iI (tm + 1)), .ref (bd 20), .ref (bd 21), .int (iI sm), .int (iI u_o), .int (iI th)])) bd nr g_o T_o cs ams ltA acA mnA rel fnd sz rx N_o (tm + 1) (kup tr tm.toNat ((r_o : Nat) : Int)) sh sg sm u_o th O1 (g_o 2 r_o) i_o k_o (L_o + 1) y_o c_o d_o) := ⟨hmd1, hrx, hN_o, hwf, hnr, hmn, hT, hc_o, a6, ⟨hij.1, a3, (by omega)⟩, a7, (by omega), (by omega), (by omega), cc5, hwr1, hdp1, (fun p_o q1 q2 => hcol1 p_o q1 (by omega))⟩
                    refine k_callV (As := [.int (iI (g_o 2 r_o)), .int (iI i_o), .int (iI k_o), .int (iI ((L_o + 1) + 1)), .int (iI y_o)]) (rest := []) h_o mX7_sees kq_5_95 (hSe hk8) 19 hmd1.1 rfl rfl rfl (Nat.le_of_ble_eq_true rfl) ⟨rfl, rfl, ⟨by show 2 * d_o + 8 + 1 ≤ 2 * d_o + 9; omega, by show 8 + (6 + 11) + (55 * d_o + 200) ≤ 55 * d_o + 225; omega⟩, ⟨(Nat.le_of_ble_eq_true rfl), (Nat.le_of_ble_eq_true rfl)⟩⟩ dX7_walks_301 (kcV fun wq9 hp => ?_)
                    obtain ⟨tmq9, trq9, shq9, sgq9, smq9, hmdq9, hwrq9, hexq9⟩ := hp
                    obtain ⟨x1, x2, x3, x4, _⟩ := m_run_fr hwf d_o (g_o 2 r_o) i_o k_o (L_o + 1) O1 a6 (by omega) (by omega) (by omega) a7 (by omega)
                    have xc := m_run_cnt hwf d_o (g_o 2 r_o) i_o k_o (L_o + 1) O1 a6 (by omega) (by omega) a7 (by omega)
                    have xo := kOi_run hwf hnr d_o (g_o 2 r_o) i_o k_o (L_o + 1) O1 a6 (by omega) (by omega) a7 (by omega) (by omega) (by omega) cc5
                    generalize m_run g_o nr rx d_o (g_o 2 r_o) i_o k_o (L_o + 1) O1 = O2 at *
                    have O2g := x1
                    have O2k := x2
                    have O2d := x3
                    have O2l := x4
                    have O2c := xc
                    have O2i := xo
                    clear x1 x2 x3 x4 xc xo
                    have hsmO2 := hwrq9.sm0 O2i (by omega)
                    refine k_aload_n h_o 1 dX7_walks_304 rfl rfl ?_
                    refine k_iload h_o 7 dX7_walks_305 rfl ?_
                    refine k_callV (As := [.int (iI ((r_o : Nat) : Int))]) (rest := []) h_o mX7_blanks kq_5_103 (c_X7_blanks hl0 hmdq9 (by omega) hg7 hsmO2) 19 hmdq9.1 rfl rfl rfl (Nat.le_of_ble_eq_true rfl) ⟨rfl, rfl, ⟨by show 0 + 1 ≤ 2 * d_o + 9; omega, by show 8 + (3 + 11) + (0) ≤ 55 * d_o + 225; omega⟩, ⟨(Nat.le_of_ble_eq_true rfl), (Nat.le_of_ble_eq_true rfl)⟩⟩ dX7_walks_307 (kcV fun wq10 hp => ?_)
                    obtain ⟨hmdq10, hexq10⟩ := hp
                    have hwrO2 := hwrq9.blank (b := g_o 7 r_o) O2i (by omega) hg7.1
                    have hgpO2 : O2.2.2.2.1 (k_o + 1).toNat = g_o 7 r_o := (O2g _ (Or.inr (by omega))).trans (f6 (m_sym1 a1))
                    rw [← hgpO2] at hwrO2
                    have hmdGO2 := hmdq10
                    rw [← hgpO2] at hmdGO2
                    refine k_aload_n h_o 1 dX7_walks_310 rfl rfl ?_
                    refine k_aload_n h_o 1 dX7_walks_311 rfl rfl ?_
                    refine k_get h_o 19 kf_X7_13 hmdGO2.1 rfl dX7_walks_312 ?_
                    refine k_iload h_o 9 dX7_walks_315 rfl ?_
                    refine k_iconst h_o dX7_walks_317 ?_
                    refine k_iadd h_o dX7_walks_318 ?_
                    refine k_iald h_o 21 hmdGO2.2.2.1 (by omega) (by decide) dX7_walks_319 ?_
                    refine k_top (z' := g_o 3 r_o) (by rw [m_rt_1 (by omega), Int.toNat_natCast]) ?_
                    refine k_iload h_o 10 dX7_walks_320 rfl ?_
                    refine k_iconst h_o dX7_walks_322 ?_
                    refine k_iadd h_o dX7_walks_323 ?_
                    refine k_iload h_o 0 dX7_walks_324 rfl ?_
                    refine k_iload h_o 5 dX7_walks_326 rfl ?_
                    refine k_iconst h_o dX7_walks_328 ?_
                    refine k_iadd h_o dX7_walks_329 ?_
                    refine k_iload h_o 8 dX7_walks_330 rfl ?_
                    have hk11 : (kWk wq10 bd nr g_o T_o cs ams ltA acA mnA rel fnd sz rx N_o tmq9 trq9 shq9 (m_col sgq9 smq9 (smq9 + O2.2.2.2.1 (k_o + 1).toNat - 1) 32) (smq9 + O2.2.2.2.1 (k_o + 1).toNat) O2.2.2.2.2.1 th O2 (g_o 3 r_o) (k_o + 1) lx (L_o + 1) y_o c_o d_o) := ⟨hmdGO2, hrx, hN_o, hwf, hnr, hmn, hT, hc_o, a1, ⟨(by omega), (by omega), (by omega)⟩, a8, (by omega), (by omega), (by omega), O2i, hwrO2, (by rw [if_neg (by omega)]), (fun p_o q1 q2 => (O2k p_o (Or.inr (by omega))).trans (hcol1 p_o (by omega) (by omega)))⟩
                    refine k_callV (As := [.int (iI (g_o 3 r_o)), .int (iI (k_o + 1)), .int (iI lx), .int (iI ((L_o + 1) + 1)), .int (iI y_o)]) (rest := []) h_o mX7_sees kq_5_95 (hSe hk11) 19 hmdGO2.1 rfl rfl rfl (Nat.le_of_ble_eq_true rfl) ⟨rfl, rfl, ⟨by show 2 * d_o + 8 + 1 ≤ 2 * d_o + 9; omega, by show 8 + (6 + 11) + (55 * d_o + 200) ≤ 55 * d_o + 225; omega⟩, ⟨(Nat.le_of_ble_eq_true rfl), (Nat.le_of_ble_eq_true rfl)⟩⟩ dX7_walks_332 (kcV fun wq12 hp => ?_)
                    obtain ⟨tmq12, trq12, shq12, sgq12, smq12, hmdq12, hwrq12, hexq12⟩ := hp
                    obtain ⟨x1, x2, x3, x4, _⟩ := m_run_fr hwf d_o (g_o 3 r_o) (k_o + 1) lx (L_o + 1) O2 a1 (by omega) (by omega) (by omega) a8 (by omega)
                    have xc := m_run_cnt hwf d_o (g_o 3 r_o) (k_o + 1) lx (L_o + 1) O2 a1 (by omega) (by omega) a8 (by omega)
                    have xo := kOi_run hwf hnr d_o (g_o 3 r_o) (k_o + 1) lx (L_o + 1) O2 a1 (by omega) (by omega) a8 (by omega) (by omega) (by omega) O2i
                    generalize m_run g_o nr rx d_o (g_o 3 r_o) (k_o + 1) lx (L_o + 1) O2 = O3 at *
                    have O3g := x1
                    have O3k := x2
                    have O3d := x3
                    have O3l := x4
                    have O3c := xc
                    have O3i := xo
                    clear x1 x2 x3 x4 xc xo
                    have hsmO3 := hwrq12.sm0 O3i (by omega)
                    refine k_aload_n h_o 1 dX7_walks_335 rfl rfl ?_
                    refine k_iload h_o 7 dX7_walks_336 rfl ?_
                    refine k_callV (As := [.int (iI ((r_o : Nat) : Int))]) (rest := []) h_o mX7_blanks kq_5_103 (c_X7_blanks hl0 hmdq12 (by omega) hg7 hsmO3) 19 hmdq12.1 rfl rfl rfl (Nat.le_of_ble_eq_true rfl) ⟨rfl, rfl, ⟨by show 0 + 1 ≤ 2 * d_o + 9; omega, by show 8 + (3 + 11) + (0) ≤ 55 * d_o + 225; omega⟩, ⟨(Nat.le_of_ble_eq_true rfl), (Nat.le_of_ble_eq_true rfl)⟩⟩ dX7_walks_338 (kcV fun wq13 hp => ?_)
                    obtain ⟨hmdq13, hexq13⟩ := hp
                    have hwrO3 := hwrq12.blank (b := g_o 7 r_o) O3i (by omega) hg7.1
                    have hgpO3 : O3.2.2.2.1 (lx + 1).toNat = g_o 7 r_o := (O3g _ (Or.inr (by omega))).trans ((O2g _ (Or.inr (by omega))).trans (f7 (m_sym1 a1) (m_sym1 a2)))
                    rw [← hgpO3] at hwrO3
                    have hmdGO3 := hmdq13
                    rw [← hgpO3] at hmdGO3
                    refine k_aload_n h_o 1 dX7_walks_341 rfl rfl ?_
                    refine k_aload_n h_o 1 dX7_walks_342 rfl rfl ?_
                    refine k_get h_o 19 kf_X7_13 hmdGO3.1 rfl dX7_walks_343 ?_
                    refine k_iload h_o 9 dX7_walks_346 rfl ?_
                    refine k_iconst h_o dX7_walks_348 ?_
                    refine k_iadd h_o dX7_walks_349 ?_
                    refine k_iald h_o 21 hmdGO3.2.2.1 (by omega) (by decide) dX7_walks_350 ?_
                    refine k_top (z' := g_o 4 r_o) (by rw [m_rt_2 (by omega), Int.toNat_natCast]) ?_
                    refine k_iload h_o 0 dX7_walks_351 rfl ?_
                    refine k_iconst h_o dX7_walks_353 ?_
                    refine k_iadd h_o dX7_walks_354 ?_
                    refine k_iload_n h_o 4 dX7_walks_355 rfl rfl ?_
                    refine k_iload h_o 5 dX7_walks_356 rfl ?_
                    refine k_iconst h_o dX7_walks_358 ?_
                    refine k_iadd h_o dX7_walks_359 ?_
                    refine k_iload h_o 8 dX7_walks_360 rfl ?_
                    have hk14 : (kWk wq13 bd nr g_o T_o cs ams ltA acA mnA rel fnd sz rx N_o tmq12 trq12 shq12 (m_col sgq12 smq12 (smq12 + O3.2.2.2.1 (lx + 1).toNat - 1) 32) (smq12 + O3.2.2.2.1 (lx + 1).toNat) O3.2.2.2.2.1 th O3 (g_o 4 r_o) (lx + 1) j_o (L_o + 1) y_o c_o d_o) := ⟨hmdGO3, hrx, hN_o, hwf, hnr, hmn, hT, hc_o, a2, ⟨(by omega), (by omega), hij.2.2⟩, a9, (by omega), (by omega), (by omega), O3i, hwrO3, (by rw [if_neg (by omega)]), (fun p_o q1 q2 => (O3k p_o (Or.inr (by omega))).trans ((O2k p_o (Or.inr (by omega))).trans (hcol1 p_o (by omega) q2)))⟩
                    refine k_callV (As := [.int (iI (g_o 4 r_o)), .int (iI (lx + 1)), .int (iI j_o), .int (iI ((L_o + 1) + 1)), .int (iI y_o)]) (rest := []) h_o mX7_sees kq_5_95 (hSe hk14) 19 hmdGO3.1 rfl rfl rfl (Nat.le_of_ble_eq_true rfl) ⟨rfl, rfl, ⟨by show 2 * d_o + 8 + 1 ≤ 2 * d_o + 9; omega, by show 8 + (6 + 11) + (55 * d_o + 200) ≤ 55 * d_o + 225; omega⟩, ⟨(Nat.le_of_ble_eq_true rfl), (Nat.le_of_ble_eq_true rfl)⟩⟩ dX7_walks_362 (kcV fun wq15 hp => ?_)
                    obtain ⟨tmq15, trq15, shq15, sgq15, smq15, hmdq15, hwrq15, hexq15⟩ := hp
                    exact k_vret h_o hr (⟨rfl, tmq15, trq15, shq15, sgq15, smq15, (by rw [hrun]; exact hmdq15), (by rw [hrun]; exact hwrq15), (fun x_o hx => ((hexq15 x_o hx).trans ((hexq13 x_o hx).trans ((hexq12 x_o hx).trans ((hexq10 x_o hx).trans ((hexq9 x_o hx).trans ((kset_ne (by omega)).trans ((kset_ne (by omega)).trans ((kset_ne (by omega)).trans rfl)))))))))⟩) (by omega) (by omega) dX7_walks_365
                  · refine k_iinc (lv' := [(9, .int (iI (z_o + 1))), (0, .ref (bd 25)), (1, .int (iI s_o)), (2, .int (iI i_o)), (3, .int (iI j_o)), (4, .int (iI (L_o + 1))), (5, .int (iI a_o)), (6, .int (iI ((r_o : Nat) : Int))), (7, .int (iI y_o)), (8, .int (iI (3 * ((r_o : Nat) : Int))))]) h_o 9 dX7_walks_249 rfl (by decide) rfl ?_
                    refine k_goto h_o 202 dX7_walks_252 (by decide) ?_
                    refine k_sub (lv' := [(0, .ref (bd 25)), (1, .int (iI s_o)), (2, .int (iI i_o)), (3, .int (iI j_o)), (4, .int (iI (L_o + 1))), (5, .int (iI a_o)), (6, .int (iI ((r_o : Nat) : Int))), (7, .int (iI y_o)), (8, .int (iI (3 * ((r_o : Nat) : Int)))), (9, .int (iI (z_o + 1)))]) [1, 2, 3, 4, 5, 6, 7, 8, 9, 0] rfl ?_
                    exact ih202 (z_o + 1) (by rcases Int.lt_or_eq_of_le hz.2 with q_o | q_o; omega; exfalso; subst q_o; have q1 := hP3.1; have q2 := m_cap_pos.mpr hP3.2; omega) (fun v_o q1 q2 => by by_cases e_o : v_o = z_o; subst e_o; intro q_o; have q3 := q_o.1; have q4 := m_cap_pos.mpr q_o.2; omega; exact hno v_o q1 (by omega)) (by omega)
            refine k_sub (lv' := [(0, .ref (bd 25)), (1, .int (iI s_o)), (2, .int (iI i_o)), (3, .int (iI j_o)), (4, .int (iI (L_o + 1))), (5, .int (iI a_o)), (6, .int (iI ((r_o : Nat) : Int))), (7, .int (iI y_o)), (8, .int (iI (3 * ((r_o : Nat) : Int)))), (9, .int (iI i_o))]) [1, 2, 3, 4, 5, 6, 7, 8, 9, 0] rfl ?_
            exact L202 ((k_o + 1 - i_o : Int).toNat + 1) i_o (by omega) (fun v_o q1 q2 => by omega) (by omega)
          · exfalso; omega
        · exfalso; omega
    refine k_aload_n h_o 2 dX7_walks_60 rfl rfl ?_
    refine k_iload h_o 6 dX7_walks_61 rfl ?_
    refine k_aload_n h_o 2 dX7_walks_63 rfl rfl ?_
    refine k_get h_o 19 kf_X7_118 kset_eq rfl dX7_walks_64 ?_
    refine k_icmp_le h_o 75 (by omega) (by omega) dX7_walks_67 (by decide) (fun h67_o => ?_) (fun h67_o => ?_)
    · refine k_aload_n h_o 2 dX7_walks_75 rfl rfl ?_
      refine k_get h_o 19 kf_X7_118 kset_eq rfl dX7_walks_76 ?_
      refine k_sub (lv' := [(0, .ref (bd 25)), (1, .int (iI s_o)), (2, .int (iI i_o)), (3, .int (iI j_o)), (4, .int (iI (L_o + 1))), (5, .int (iI a_o)), (6, .int (iI ((r_o : Nat) : Int))), (7, .int (iI y_o)), (8, .int (iI (3 * ((r_o : Nat) : Int))))]) [2, 3, 4, 5, 6, 7, 8, 1, 0] rfl ?_
      exact J79 dp (by first | rw [if_neg (by omega)] | rw [if_pos (by omega)])
    · refine k_iload h_o 6 dX7_walks_70 rfl ?_
      refine k_goto h_o 79 dX7_walks_72 (by decide) ?_
      refine k_sub (lv' := [(0, .ref (bd 25)), (1, .int (iI s_o)), (2, .int (iI i_o)), (3, .int (iI j_o)), (4, .int (iI (L_o + 1))), (5, .int (iI a_o)), (6, .int (iI ((r_o : Nat) : Int))), (7, .int (iI y_o)), (8, .int (iI (3 * ((r_o : Nat) : Int))))]) [2, 3, 4, 5, 6, 7, 8, 1, 0] rfl ?_
      exact J79 (L_o + 1) (by first | rw [if_neg (by omega)] | rw [if_pos (by omega)])
  refine k_aload_n h_o 1 dX7_walks_9 rfl rfl ?_
  refine k_get h_o 19 kf_X7_22 hmd.1 rfl dX7_walks_10 ?_
  refine k_iload h_o 0 dX7_walks_13 rfl ?_
  refine k_iald h_o 24 hmd.2.2.2.2.2.1 (by omega) (by decide) dX7_walks_15 ?_
  refine k_top (z' := g_o 6 r_o) (by rw [Int.toNat_natCast]) ?_
  refine k_ifne h_o 24 (by omega) dX7_walks_16 (by decide) (fun h16_o => ?_) (fun h16_o => ?_)
  · refine k_aload_n h_o 1 dX7_walks_24 rfl rfl ?_
    refine k_get h_o 19 kf_X7_22 hmd.1 rfl dX7_walks_25 ?_
    refine k_iload h_o 0 dX7_walks_28 rfl ?_
    refine k_iald h_o 24 hmd.2.2.2.2.2.1 (by omega) (by decide) dX7_walks_30 ?_
    refine k_top (z' := g_o 6 r_o) (by rw [Int.toNat_natCast]) ?_
    refine k_sub (lv' := [(0, .ref (bd 25)), (1, .int (iI s_o)), (2, .int (iI i_o)), (3, .int (iI j_o)), (4, .int (iI (L_o + 1))), (5, .int (iI a_o)), (6, .int (iI ((r_o : Nat) : Int)))]) [1, 2, 3, 4, 5, 6, 0] rfl ?_
    exact J31 (g_o 6 r_o) (by first | rw [if_pos h16_o] | rw [if_neg h16_o])
  · refine k_iload h_o 6 dX7_walks_19 rfl ?_
    refine k_goto h_o 31 dX7_walks_21 (by decide) ?_
    refine k_sub (lv' := [(0, .ref (bd 25)), (1, .int (iI s_o)), (2, .int (iI i_o)), (3, .int (iI j_o)), (4, .int (iI (L_o + 1))), (5, .int (iI a_o)), (6, .int (iI ((r_o : Nat) : Int)))]) [1, 2, 3, 4, 5, 6, 0] rfl ?_
    exact J31 a_o (by first | rw [if_pos h16_o] | rw [if_neg h16_o])

set_option maxHeartbeats 4000000 in
set_option maxRecDepth 100000 in
theorem c_X7_seesS {E_o : kE} {l_o : Launch} (hl0 : l_o.stackTraces = false) {d_o : Nat} (hSe : kSeC E_o l_o d_o) {w_o : kW} {bd : Nat → Nat} {nr : Nat} {g_o : Nat → Nat → Int} {T_o : Nat} {cs ams ltA acA mnA : Nat → Int} {rel fnd sz : Int} {rx : Nat → Int} {N_o : Nat → Nat} {tm : Int} {tr sh sg : Nat → Int} {sm dp th : Int} {O_o : kO} {s_o i_o j_o L_o a_o c_o : Int} (hk : kWk w_o bd nr g_o T_o cs ams ltA acA mnA rel fnd sz rx N_o tm tr sh sg sm dp th O_o s_o i_o j_o L_o a_o c_o (d_o + 1)) : kM E_o l_o yX7_sees (.code yX7_sees cX7_sees 6 none :: kAL) { frames := 2 * (d_o + 1) + 8, cells := 0, slots := 0, locals := 55 * (d_o + 1) + 200 } 0 0 [.ref (bd 25), .int (iI s_o), .int (iI i_o), .int (iI j_o), .int (iI (L_o + 1)), .int (iI a_o)] w_o (pV (fun w2_o => kWp w_o w2_o bd nr g_o T_o cs ams ltA acA mnA rel fnd sz rx N_o th (m_run g_o nr rx (d_o + 1) s_o i_o j_o L_o O_o) j_o)) := by
  refine kM_of hl0 (by decide +kernel) (Nat.le_of_ble_eq_true rfl) ?_
  intro X_o hXl h_o hr hin
  subst hXl
  obtain ⟨hmd, hrx, hN_o, hwf, hnr, hmn, hT, hc_o, hs, hij, hp, hMd, hL, hO1, hOi, hwr, hdp, hcol⟩ := id hk
  have hsmR := hwr.rng hOi (by omega) (hOi.2.1 _)
  show kG E_o X_o 6 0 0 w_o 0 [(0, .ref (bd 25)), (1, .int (iI s_o)), (2, .int (iI i_o)), (3, .int (iI j_o)), (4, .int (iI (L_o + 1))), (5, .int (iI a_o))] []
  refine k_iload_n h_o 1 dX7_sees_0 rfl rfl ?_
  refine k_callS (As := [.int (iI s_o)]) (rest := []) h_o mX7_isName kq_4_211 (c_X7_isName hl0 (by omega)) rfl rfl (Nat.le_of_ble_eq_true rfl) ⟨rfl, rfl, ⟨by show 1 + 1 ≤ 2 * (d_o + 1) + 8; omega, by show 8 + (1 + 11) + (25) ≤ 55 * (d_o + 1) + 200; omega⟩, ⟨(Nat.le_of_ble_eq_true rfl), (Nat.le_of_ble_eq_true rfl)⟩⟩ dX7_sees_1 (kcI fun z1_o w1_o hp => ?_)
  obtain ⟨rfl, rfl⟩ := hp
  refine k_ifBeq h_o 19 dX7_sees_4 (by decide) (fun h4_o => ?_) (fun h4_o => ?_)
  · have hsL : m_isL s_o := by omega
    obtain ⟨he, hrs⟩ := m_part_L hsL hp
    have hR := m_run_L (g := g_o) (nr := nr) (lt := rx) (d := d_o) (i := i_o) (j := j_o) (L := L_o) (O := O_o) hsL
    have hdp2 : dp = (m_run g_o nr rx (d_o + 1) s_o i_o j_o L_o O_o).2.2.2.2.1 := by rw [hR]; exact hdp
    refine k_aload_n h_o 0 dX7_sees_19 rfl rfl ?_
    refine k_get h_o 19 kf_X7_53 hmd.1 rfl dX7_sees_20 ?_
    refine k_iload_n h_o 2 dX7_sees_23 rfl rfl ?_
    refine k_iload h_o 5 dX7_sees_24 rfl ?_
    refine k_iast h_o 40 hmd.2.2.2.2.2.2.2.2.2.2.2.2.2.2.2.1 (by omega) (by decide) dX7_sees_26 ?_
    refine k_aload_n h_o 0 dX7_sees_27 rfl rfl ?_
    refine k_get h_o 19 kf_X7_56 ((kset_ne (by decide)).trans hmd.1) rfl dX7_sees_28 ?_
    refine k_aload_n h_o 0 dX7_sees_31 rfl rfl ?_
    refine k_get h_o 19 kf_X7_109 ((kset_ne (by decide)).trans hmd.1) rfl dX7_sees_32 ?_
    refine k_bipush h_o dX7_sees_35 (by decide) ?_
    refine k_iload_n h_o 1 dX7_sees_37 rfl rfl ?_
    refine k_iadd h_o dX7_sees_38 ?_
    refine k_i2c h_o (by omega) dX7_sees_39 ?_
    refine k_cast h_o 41 ((kset_ne (by decide)).trans hmd.2.2.2.2.2.2.2.2.2.2.2.2.2.2.2.2) (by omega) (by decide) (iI_chv (by omega)) dX7_sees_40 ?_
    refine k_aload_n h_o 0 dX7_sees_41 rfl rfl ?_
    refine k_dup h_o dX7_sees_42 rfl ?_
    refine k_get h_o 19 kf_X7_109 ((kset_ne (by decide)).trans ((kset_ne (by decide)).trans hmd.1)) rfl dX7_sees_43 ?_
    refine k_iconst h_o dX7_sees_46 ?_
    refine k_iadd h_o dX7_sees_47 ?_
    refine k_put (fs' := [.ref (bd 0), .ref (bd 1), .ref (bd 2), .ref (bd 3), .ref (bd 4), .ref (bd 5), .ref (bd 6), .int (iI ((nr : Nat) : Int)), .ref (bd 8), .ref (bd 9), .ref (bd 10), .ref (bd 11), .int (iI ((T_o : Nat) : Int)), .long (lI fnd), .int (iI rel), .ref (bd 15), .int (iI sz), .ref (bd 17), .ref (bd 18), .int (iI tm), .ref (bd 20), .ref (bd 21), .int (iI (sm + 1)), .int (iI dp), .int (iI th)]) h_o 19 kf_X7_109 kt_X7_22 ((kset_ne (by decide)).trans ((kset_ne (by decide)).trans hmd.1)) rfl rfl (Nat.le_of_ble_eq_true rfl) rfl dX7_sees_48 ?_
    exact k_vret h_o hr (⟨rfl, tm, tr, kup sh i_o.toNat a_o, kup sg sm.toNat (97 + s_o), sm + 1, (by rw [← hdp2]; exact ⟨kset_eq, ((kset_ne (by decide)).trans ((kset_ne (by decide)).trans ((kset_ne (by decide)).trans hmd.2.1))), ((kset_ne (by decide)).trans ((kset_ne (by decide)).trans ((kset_ne (by decide)).trans hmd.2.2.1))), ((kset_ne (by decide)).trans ((kset_ne (by decide)).trans ((kset_ne (by decide)).trans hmd.2.2.2.1))), ((kset_ne (by decide)).trans ((kset_ne (by decide)).trans ((kset_ne (by decide)).trans hmd.2.2.2.2.1))), ((kset_ne (by decide)).trans ((kset_ne (by decide)).trans ((kset_ne (by decide)).trans hmd.2.2.2.2.2.1))), ((kset_ne (by decide)).trans ((kset_ne (by decide)).trans ((kset_ne (by decide)).trans hmd.2.2.2.2.2.2.1))), ((kset_ne (by decide)).trans ((kset_ne (by decide)).trans ((kset_ne (by decide)).trans hmd.2.2.2.2.2.2.2.1))), ((kset_ne (by decide)).trans ((kset_ne (by decide)).trans ((kset_ne (by decide)).trans hmd.2.2.2.2.2.2.2.2.1))), ((kset_ne (by decide)).trans ((kset_ne (by decide)).trans ((kset_ne (by decide)).trans hmd.2.2.2.2.2.2.2.2.2.1))), ((kset_ne (by decide)).trans ((kset_ne (by decide)).trans ((kset_ne (by decide)).trans hmd.2.2.2.2.2.2.2.2.2.2.1))), ((kset_ne (by decide)).trans ((kset_ne (by decide)).trans ((kset_ne (by decide)).trans hmd.2.2.2.2.2.2.2.2.2.2.2.1))), ((kset_ne (by decide)).trans ((kset_ne (by decide)).trans ((kset_ne (by decide)).trans hmd.2.2.2.2.2.2.2.2.2.2.2.2.1))), ((kset_ne (by decide)).trans ((kset_ne (by decide)).trans ((kset_ne (by decide)).trans hmd.2.2.2.2.2.2.2.2.2.2.2.2.2.1))), ((kset_ne (by decide)).trans ((kset_ne (by decide)).trans ((kset_ne (by decide)).trans hmd.2.2.2.2.2.2.2.2.2.2.2.2.2.2.1))), ((kset_ne (by decide)).trans ((kset_ne (by decide)).trans kset_eq)), ((kset_ne (by decide)).trans kset_eq)⟩), (by rw [hR, ← he]; exact hwr.letter hOi hij.1 rfl (hcol i_o.toNat (by omega) (by omega)).symm (by rw [hrs])), (fun x_o hx => ((kset_ne (by omega)).trans ((kset_ne (by omega)).trans ((kset_ne (by omega)).trans rfl))))⟩) (by omega) (by omega) dX7_sees_51
  · refine k_aload_n h_o 0 dX7_sees_7 rfl rfl ?_
    refine k_iload_n h_o 1 dX7_sees_8 rfl rfl ?_
    refine k_iload_n h_o 2 dX7_sees_9 rfl rfl ?_
    refine k_iload_n h_o 3 dX7_sees_10 rfl rfl ?_
    refine k_iload h_o 4 dX7_sees_11 rfl ?_
    refine k_iload h_o 5 dX7_sees_13 rfl ?_
    refine k_callV (As := [.int (iI s_o), .int (iI i_o), .int (iI j_o), .int (iI (L_o + 1)), .int (iI a_o)]) (rest := []) h_o mX7_walks kq_5_87 (c_X7_walks hl0 hSe hk h4_o) 19 hmd.1 rfl rfl rfl (Nat.le_of_ble_eq_true rfl) ⟨rfl, rfl, ⟨by show 2 * d_o + 9 + 1 ≤ 2 * (d_o + 1) + 8; omega, by show 8 + (11 + 11) + (55 * d_o + 225) ≤ 55 * (d_o + 1) + 200; omega⟩, ⟨(Nat.le_of_ble_eq_true rfl), (Nat.le_of_ble_eq_true rfl)⟩⟩ dX7_sees_15 (kcV fun wq16 hp => ?_)
    obtain ⟨tmq16, trq16, shq16, sgq16, smq16, hmdq16, hwrq16, hexq16⟩ := hp
    exact k_vret h_o hr (⟨rfl, tmq16, trq16, shq16, sgq16, smq16, hmdq16, hwrq16, hexq16⟩) (by omega) (by omega) dX7_sees_18

theorem c_X7_sees {E_o : kE} {l_o : Launch} (hl0 : l_o.stackTraces = false) : ∀ d_o : Nat, kSeC E_o l_o d_o
  | 0 => fun hk => by exfalso; obtain ⟨_, _, _, _, _, _, _, _, q1, q2, _, q3, _⟩ := hk; have := m_M_rg q1 q2.2.1; omega
  | d_o + 1 => fun hk => c_X7_seesS hl0 (c_X7_sees hl0 d_o) hk
