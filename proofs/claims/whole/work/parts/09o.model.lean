set_option maxHeartbeats 4000000 in
set_option maxRecDepth 100000 in
theorem c_X7_finds {E_o : kE} {l_o : Launch} (hl0 : l_o.stackTraces = false) {w_o : kW} {bd : Nat → Nat} {nr : Nat} {g_o : Nat → Nat → Int} {T_o : Nat} {cs ams ltA acA mnA : Nat → Int} {rel fnd sz : Int} {rx : Nat → Int} {N_o : Nat → Nat} {tm : Int} {tr sh sg : Nat → Int} {sm dp th : Int} {K_o L_o : Int} (hmd : kMd w_o bd nr g_o T_o cs ams ltA acA mnA rel fnd sz rx N_o tm tr sh sg sm dp th) (hrx : kLt rx) (hN_o : ∀ x_o, N_o x_o ≤ 1000) (hwf : kWf g_o nr) (hnr : nr ≤ 12) (hmn : ∀ r_o, r_o < nr → mnA r_o = m_np g_o r_o) (hK : 1 ≤ K_o ∧ K_o ≤ 3) (hL : 1 ≤ L_o ∧ L_o ≤ 4) : kM E_o l_o yX7_finds (.code yX7_finds cX7_finds 7 (some .boolean) :: kAL) { frames := 6, cells := 0, slots := 0, locals := 146 } 0 0 [.ref (bd 25), .int (iI K_o), .int (iI L_o)] w_o (pI (fun z_o w2_o => (1 = z_o ∧ ∃ (c_o n_o : Nat) (rx2 : Nat → Int) (N2 : Nat → Nat), m_ar g_o nr K_o L_o c_o n_o ∧ (1 ≤ c_o ∧ c_o ≤ 4) ∧ (kMd w2_o bd nr g_o T_o cs ams ltA acA mnA rel fnd (((c_o : Nat) : Int)) rx2 N2 tm tr sh sg sm dp th) ∧ kLt rx2 ∧ (∀ z_o, N2 z_o ≤ 1000) ∧ (∀ p_o : Nat, p_o < c_o → rx2 p_o = m_rw K_o c_o n_o p_o) ∧ kEx w_o w2_o kMk) ∨ (0 = z_o ∧ m_an g_o nr K_o L_o ∧ ∃ (sz2 : Int) (rx2 : Nat → Int) (N2 : Nat → Nat), (kMd w2_o bd nr g_o T_o cs ams ltA acA mnA rel fnd sz2 rx2 N2 tm tr sh sg sm dp th) ∧ kLt rx2 ∧ (∀ z_o, N2 z_o ≤ 1000) ∧ kEx w_o w2_o kMk))) := by
  refine kM_of hl0 (by decide +kernel) (Nat.le_of_ble_eq_true rfl) ?_
  intro X_o hXl h_o hr hin
  subst hXl
  show kG E_o X_o 7 0 0 w_o 0 [(0, .ref (bd 25)), (1, .int (iI K_o)), (2, .int (iI L_o))] []
  refine k_aload_n h_o 0 dX7_finds_0 rfl rfl ?_
  refine k_iconst h_o dX7_finds_1 ?_
  refine k_put (fs' := [.ref (bd 0), .ref (bd 1), .ref (bd 2), .ref (bd 3), .ref (bd 4), .ref (bd 5), .ref (bd 6), .int (iI ((nr : Nat) : Int)), .ref (bd 8), .ref (bd 9), .ref (bd 10), .ref (bd 11), .int (iI ((T_o : Nat) : Int)), .long (lI fnd), .int (iI rel), .ref (bd 15), .int (iI 1), .ref (bd 17), .ref (bd 18), .int (iI tm), .ref (bd 20), .ref (bd 21), .int (iI sm), .int (iI dp), .int (iI th)]) h_o 19 kf_X7_93 kt_X7_16 hmd.1 rfl rfl (Nat.le_of_ble_eq_true rfl) rfl dX7_finds_2 ?_
  have L5 : ∀ (mm : Nat) (c_o : Int) (rx5 : Nat → Int) (N5 : Nat → Nat) (w8_o : kW), (1 ≤ c_o ∧ c_o ≤ L_o + 1) → (kMd w8_o bd nr g_o T_o cs ams ltA acA mnA rel fnd c_o rx5 N5 tm tr sh sg sm dp th) → (kLt rx5) → (∀ x_o, N5 x_o ≤ 1000) → (∀ c2 m_o : Nat, 1 ≤ c2 → (c2 : Int) < c_o → m_o < m_pw K_o c2 → ¬ m_am g_o nr K_o c2 m_o) → (kEx w_o w8_o kMk) → (L_o + 1 - c_o < (mm : Int)) → kG E_o X_o 7 0 0 w8_o 5 [(0, .ref (bd 25)), (1, .int (iI K_o)), (2, .int (iI L_o))] [] := by
    intro mm
    induction mm with
    | zero =>
      intro c_o rx5 N5 w8_o hc1 hmd8 hrx5 hN5 hno5 hx8 hm_o
      exfalso; omega
    | succ mm ih5 =>
      intro c_o rx5 N5 w8_o hc1 hmd8 hrx5 hN5 hno5 hx8 hm_o
      refine k_aload_n h_o 0 dX7_finds_5 rfl rfl ?_
      refine k_get h_o 19 kf_X7_93 hmd8.1 rfl dX7_finds_6 ?_
      refine k_iload_n h_o 2 dX7_finds_9 rfl rfl ?_
      refine k_icmp_gt h_o 128 (by omega) (by omega) dX7_finds_10 (by decide) (fun h10_o => ?_) (fun h10_o => ?_)
      · refine k_iconst h_o dX7_finds_128 ?_
        exact k_iret h_o hr rfl (⟨_, rfl, Or.inr ⟨rfl, (fun c2 m_o q1 q2 q3 => hno5 c2 m_o q1 (by omega) q3), c_o, rx5, N5, hmd8, hrx5, hN5, hx8⟩⟩) (by omega) (by omega) dX7_finds_129
      · refine k_iconst h_o dX7_finds_13 ?_
        refine k_istore_n (lv' := [(3, .int (iI 1)), (0, .ref (bd 25)), (1, .int (iI K_o)), (2, .int (iI L_o))]) h_o dX7_finds_14 rfl (by decide) rfl ?_
        refine k_iconst h_o dX7_finds_15 ?_
        refine k_istore (lv' := [(4, .int (iI 0)), (3, .int (iI 1)), (0, .ref (bd 25)), (1, .int (iI K_o)), (2, .int (iI L_o))]) h_o dX7_finds_16 (by decide) rfl ?_
        have L18 : ∀ (mm : Nat) (k_o : Int), (0 ≤ k_o ∧ k_o ≤ c_o) → (c_o - k_o < (mm : Int)) → kG E_o X_o 7 0 0 w8_o 18 [(0, .ref (bd 25)), (1, .int (iI K_o)), (2, .int (iI L_o)), (3, .int (iI ((m_pw K_o (k_o).toNat : Nat) : Int))), (4, .int (iI k_o))] [] := by
          intro mm
          induction mm with
          | zero =>
            intro k_o hk hm_o
            exfalso; omega
          | succ mm ih18 =>
            intro k_o hk hm_o
            refine k_iload h_o 4 dX7_finds_18 rfl ?_
            refine k_aload_n h_o 0 dX7_finds_20 rfl rfl ?_
            refine k_get h_o 19 kf_X7_93 hmd8.1 rfl dX7_finds_21 ?_
            refine k_icmp_ge h_o 37 (by omega) (by omega) dX7_finds_24 (by decide) (fun h24_o => ?_) (fun h24_o => ?_)
            · have hpw := m_pw_le hK (c := c_o.toNat) (by omega)
              refine k_iconst h_o dX7_finds_37 ?_
              refine k_istore (lv' := [(4, .int (iI 0)), (0, .ref (bd 25)), (1, .int (iI K_o)), (2, .int (iI L_o)), (3, .int (iI ((m_pw K_o (k_o).toNat : Nat) : Int)))]) h_o dX7_finds_38 (by decide) rfl ?_
              have L40 : ∀ (mm : Nat) (n_o : Int) (rx6 : Nat → Int) (N6 : Nat → Nat) (w9_o : kW), (0 ≤ n_o ∧ n_o ≤ ((m_pw K_o (c_o).toNat : Nat) : Int)) → (kMd w9_o bd nr g_o T_o cs ams ltA acA mnA rel fnd c_o rx6 N6 tm tr sh sg sm dp th) → (kLt rx6) → (∀ x_o, N6 x_o ≤ 1000) → (∀ m_o : Nat, (m_o : Int) < n_o → ¬ m_am g_o nr K_o c_o.toNat m_o) → (kEx w_o w9_o kMk) → ((m_pw K_o (c_o).toNat : Nat) : Int) - n_o < (mm : Int) → kG E_o X_o 7 0 0 w9_o 40 [(0, .ref (bd 25)), (1, .int (iI K_o)), (2, .int (iI L_o)), (3, .int (iI ((m_pw K_o (c_o).toNat : Nat) : Int))), (4, .int (iI n_o))] [] := by
                intro mm
                induction mm with
                | zero =>
                  intro n_o rx6 N6 w9_o hn0 hmd9 hrx6 hN6 hno6 hx9 hm_o
                  exfalso; omega
                | succ mm ih40 =>
                  intro n_o rx6 N6 w9_o hn0 hmd9 hrx6 hN6 hno6 hx9 hm_o
                  refine k_iload h_o 4 dX7_finds_40 rfl ?_
                  refine k_iload_n h_o 3 dX7_finds_42 rfl rfl ?_
                  refine k_icmp_ge h_o 115 (by omega) (by omega) dX7_finds_43 (by decide) (fun h43_o => ?_) (fun h43_o => ?_)
                  · have hnp : ∀ m_o : Nat, m_o < m_pw K_o c_o.toNat → ¬ m_am g_o nr K_o c_o.toNat m_o := fun m_o q_o => hno6 m_o (by omega)
                    refine k_aload_n h_o 0 dX7_finds_115 rfl rfl ?_
                    refine k_dup h_o dX7_finds_116 rfl ?_
                    refine k_get h_o 19 kf_X7_93 hmd9.1 rfl dX7_finds_117 ?_
                    refine k_iconst h_o dX7_finds_120 ?_
                    refine k_iadd h_o dX7_finds_121 ?_
                    refine k_put (fs' := [.ref (bd 0), .ref (bd 1), .ref (bd 2), .ref (bd 3), .ref (bd 4), .ref (bd 5), .ref (bd 6), .int (iI ((nr : Nat) : Int)), .ref (bd 8), .ref (bd 9), .ref (bd 10), .ref (bd 11), .int (iI ((T_o : Nat) : Int)), .long (lI fnd), .int (iI rel), .ref (bd 15), .int (iI (c_o + 1)), .ref (bd 17), .ref (bd 18), .int (iI tm), .ref (bd 20), .ref (bd 21), .int (iI sm), .int (iI dp), .int (iI th)]) h_o 19 kf_X7_93 kt_X7_16 hmd9.1 rfl rfl (Nat.le_of_ble_eq_true rfl) rfl dX7_finds_122 ?_
                    refine k_goto h_o 5 dX7_finds_125 (by decide) ?_
                    refine k_sub (lv' := [(0, .ref (bd 25)), (1, .int (iI K_o)), (2, .int (iI L_o))]) [0, 1, 2] rfl ?_
                    exact ih5 (c_o + 1) rx6 N6 (kset w9_o 19 (bd 25) (ob 9 [.ref (bd 0), .ref (bd 1), .ref (bd 2), .ref (bd 3), .ref (bd 4), .ref (bd 5), .ref (bd 6), .int (iI ((nr : Nat) : Int)), .ref (bd 8), .ref (bd 9), .ref (bd 10), .ref (bd 11), .int (iI ((T_o : Nat) : Int)), .long (lI fnd), .int (iI rel), .ref (bd 15), .int (iI (c_o + 1)), .ref (bd 17), .ref (bd 18), .int (iI tm), .ref (bd 20), .ref (bd 21), .int (iI sm), .int (iI dp), .int (iI th)])) (by omega) (⟨kset_eq, ((kset_ne (by decide)).trans hmd9.2.1), ((kset_ne (by decide)).trans hmd9.2.2.1), ((kset_ne (by decide)).trans hmd9.2.2.2.1), ((kset_ne (by decide)).trans hmd9.2.2.2.2.1), ((kset_ne (by decide)).trans hmd9.2.2.2.2.2.1), ((kset_ne (by decide)).trans hmd9.2.2.2.2.2.2.1), ((kset_ne (by decide)).trans hmd9.2.2.2.2.2.2.2.1), ((kset_ne (by decide)).trans hmd9.2.2.2.2.2.2.2.2.1), ((kset_ne (by decide)).trans hmd9.2.2.2.2.2.2.2.2.2.1), ((kset_ne (by decide)).trans hmd9.2.2.2.2.2.2.2.2.2.2.1), ((kset_ne (by decide)).trans hmd9.2.2.2.2.2.2.2.2.2.2.2.1), ((kset_ne (by decide)).trans hmd9.2.2.2.2.2.2.2.2.2.2.2.2.1), ((kset_ne (by decide)).trans hmd9.2.2.2.2.2.2.2.2.2.2.2.2.2.1), ((kset_ne (by decide)).trans hmd9.2.2.2.2.2.2.2.2.2.2.2.2.2.2.1), ((kset_ne (by decide)).trans hmd9.2.2.2.2.2.2.2.2.2.2.2.2.2.2.2.1), ((kset_ne (by decide)).trans hmd9.2.2.2.2.2.2.2.2.2.2.2.2.2.2.2.2)⟩) hrx6 hN6 (fun c2 m_o q1 q2 q3 => by by_cases e_o : (c2 : Int) < c_o; exact hno5 c2 m_o q1 e_o q3; have e2 : c2 = c_o.toNat := (by omega); subst e2; exact hnp m_o q3) (fun x_o hx => ((kset_ne (by omega)).trans (hx9 x_o hx))) (by omega)
                  · refine k_iload h_o 4 dX7_finds_46 rfl ?_
                    refine k_istore (lv' := [(5, .int (iI n_o)), (0, .ref (bd 25)), (1, .int (iI K_o)), (2, .int (iI L_o)), (3, .int (iI ((m_pw K_o (c_o).toNat : Nat) : Int))), (4, .int (iI n_o))]) h_o dX7_finds_48 (by decide) rfl ?_
                    refine k_aload_n h_o 1 dX7_finds_50 rfl rfl ?_
                    refine k_get h_o 19 kf_X7_93 hmd9.1 rfl dX7_finds_51 ?_
                    refine k_iconst h_o dX7_finds_54 ?_
                    refine k_isub h_o dX7_finds_55 ?_
                    refine k_istore (lv' := [(6, .int (iI (c_o - 1))), (5, .int (iI n_o)), (0, .ref (bd 25)), (1, .int (iI K_o)), (2, .int (iI L_o)), (3, .int (iI ((m_pw K_o (c_o).toNat : Nat) : Int))), (4, .int (iI n_o))]) h_o dX7_finds_56 (by decide) rfl ?_
                    have L58 : ∀ (mm : Nat) (k_o : Int) (rx7 : Nat → Int) (w10_o : kW), (-1 ≤ k_o ∧ k_o ≤ c_o - 1) → (kMd w10_o bd nr g_o T_o cs ams ltA acA mnA rel fnd c_o rx7 N6 tm tr sh sg sm dp th) → (kLt rx7) → (∀ p_o : Nat, k_o < (p_o : Int) → (p_o : Int) < c_o → rx7 p_o = m_rw K_o c_o.toNat n_o.toNat p_o) → (kEx w_o w10_o kMk) → (k_o + 1 < (mm : Int)) → kG E_o X_o 7 0 0 w10_o 58 [(0, .ref (bd 25)), (1, .int (iI K_o)), (2, .int (iI L_o)), (3, .int (iI ((m_pw K_o (c_o).toNat : Nat) : Int))), (4, .int (iI n_o)), (5, .int (iI ((m_dv K_o n_o.toNat (c_o - 1 - k_o).toNat : Nat) : Int))), (6, .int (iI k_o))] [] := by
                      intro mm
                      induction mm with
                      | zero =>
                        intro k_o rx7 w10_o hk7 hmd10 hrx7 hrow hx10 hm_o
                        exfalso; omega
                      | succ mm ih58 =>
                        intro k_o rx7 w10_o hk7 hmd10 hrx7 hrow hx10 hm_o
                        refine k_iload h_o 6 dX7_finds_58 rfl ?_
                        refine k_iflt h_o 86 (by omega) dX7_finds_60 (by decide) (fun h60_o => ?_) (fun h60_o => ?_)
                        · refine k_aload_n h_o 0 dX7_finds_86 rfl rfl ?_
                          refine k_callV (As := []) (rest := []) h_o mX7_lays kq_5_28 (c_X7_lays hl0 hmd10 hrx7 hN6 hwf hnr hmn (by omega)) 19 hmd10.1 rfl rfl rfl (Nat.le_of_ble_eq_true rfl) ⟨rfl, rfl, ⟨(Nat.le_of_ble_eq_true rfl), (Nat.le_of_ble_eq_true rfl)⟩, ⟨(Nat.le_of_ble_eq_true rfl), (Nat.le_of_ble_eq_true rfl)⟩⟩ dX7_finds_87 (kcV fun w87_o hp => ?_)
                          obtain ⟨N2, rfl, hN2, hTr2⟩ := hp
                          have hmdC : (kMd ((kset w10_o 37 (bd 17) (ai 500 (fun x_o => ((N2 x_o : Nat) : Int))))) bd nr g_o T_o cs ams ltA acA mnA rel fnd c_o rx7 N2 tm tr sh sg sm dp th) := ⟨((kset_ne (by decide)).trans hmd10.1), ((kset_ne (by decide)).trans hmd10.2.1), ((kset_ne (by decide)).trans hmd10.2.2.1), ((kset_ne (by decide)).trans hmd10.2.2.2.1), ((kset_ne (by decide)).trans hmd10.2.2.2.2.1), ((kset_ne (by decide)).trans hmd10.2.2.2.2.2.1), ((kset_ne (by decide)).trans hmd10.2.2.2.2.2.2.1), ((kset_ne (by decide)).trans hmd10.2.2.2.2.2.2.2.1), ((kset_ne (by decide)).trans hmd10.2.2.2.2.2.2.2.2.1), ((kset_ne (by decide)).trans hmd10.2.2.2.2.2.2.2.2.2.1), ((kset_ne (by decide)).trans hmd10.2.2.2.2.2.2.2.2.2.2.1), ((kset_ne (by decide)).trans hmd10.2.2.2.2.2.2.2.2.2.2.2.1), ((kset_ne (by decide)).trans hmd10.2.2.2.2.2.2.2.2.2.2.2.2.1), kset_eq, ((kset_ne (by decide)).trans hmd10.2.2.2.2.2.2.2.2.2.2.2.2.2.2.1), ((kset_ne (by decide)).trans hmd10.2.2.2.2.2.2.2.2.2.2.2.2.2.2.2.1), ((kset_ne (by decide)).trans hmd10.2.2.2.2.2.2.2.2.2.2.2.2.2.2.2.2)⟩
                          refine k_aload_n h_o 0 dX7_finds_90 rfl rfl ?_
                          refine k_bipush h_o dX7_finds_91 (by decide) ?_
                          refine k_iconst h_o dX7_finds_93 ?_
                          refine k_aload_n h_o 0 dX7_finds_94 rfl rfl ?_
                          refine k_get h_o 19 kf_X7_93 hmdC.1 rfl dX7_finds_95 ?_
                          refine k_iconst h_o dX7_finds_98 ?_
                          refine k_isub h_o dX7_finds_99 ?_
                          refine k_callV (As := [.int (iI 10), .int (iI 0), .int (iI (c_o - 1))]) (rest := []) h_o mX7_part kq_5_36 (c_X7_part hl0 hmdC hrx7 (by omega) (by omega) (by omega)) 19 hmdC.1 rfl rfl rfl (Nat.le_of_ble_eq_true rfl) ⟨rfl, rfl, ⟨(Nat.le_of_ble_eq_true rfl), (Nat.le_of_ble_eq_true rfl)⟩, ⟨(Nat.le_of_ble_eq_true rfl), (Nat.le_of_ble_eq_true rfl)⟩⟩ dX7_finds_100 (kcI fun z100_o w100_o hp => ?_)
                          obtain ⟨rfl, rfl⟩ := hp
                          refine k_top (z' := ((m_TT g_o nr rx7 10 0 (c_o - 1) : Nat) : Int)) (by rw [m_part_N (by decide), hTr2 10 0 (c_o - 1) (by decide) (by omega) (by omega) (by omega)]) ?_
                          have ham := m_am_row (g := g_o) (nr := nr) (K := K_o) (c := c_o) (n := n_o.toNat) (rx := rx7) (by omega) (fun p_o q_o => hrow p_o (by omega) q_o)
                          refine k_iconst h_o dX7_finds_103 ?_
                          refine k_icmp_le h_o 109 (m_natrg m_TT_le) (by decide) dX7_finds_104 (by decide) (fun h104_o => ?_) (fun h104_o => ?_)
                          · refine k_iinc (lv' := [(4, .int (iI (n_o + 1))), (0, .ref (bd 25)), (1, .int (iI K_o)), (2, .int (iI L_o)), (3, .int (iI ((m_pw K_o (c_o).toNat : Nat) : Int))), (5, .int (iI ((m_dv K_o n_o.toNat (c_o - 1 - k_o).toNat : Nat) : Int))), (6, .int (iI k_o))]) h_o 4 dX7_finds_109 rfl (by decide) rfl ?_
                            refine k_goto h_o 40 dX7_finds_112 (by decide) ?_
                            refine k_sub (lv' := [(0, .ref (bd 25)), (1, .int (iI K_o)), (2, .int (iI L_o)), (3, .int (iI ((m_pw K_o (c_o).toNat : Nat) : Int))), (4, .int (iI (n_o + 1)))]) [1, 2, 3, 4, 0] rfl ?_
                            exact ih40 (n_o + 1) rx7 N2 (kset w10_o 37 (bd 17) (ai 500 (fun x_o => ((N2 x_o : Nat) : Int)))) (by omega) (⟨hmdC.1, hmdC.2.1, hmdC.2.2.1, hmdC.2.2.2.1, hmdC.2.2.2.2.1, hmdC.2.2.2.2.2.1, hmdC.2.2.2.2.2.2.1, hmdC.2.2.2.2.2.2.2.1, hmdC.2.2.2.2.2.2.2.2.1, hmdC.2.2.2.2.2.2.2.2.2.1, hmdC.2.2.2.2.2.2.2.2.2.2.1, hmdC.2.2.2.2.2.2.2.2.2.2.2.1, hmdC.2.2.2.2.2.2.2.2.2.2.2.2.1, hmdC.2.2.2.2.2.2.2.2.2.2.2.2.2.1, hmdC.2.2.2.2.2.2.2.2.2.2.2.2.2.2.1, hmdC.2.2.2.2.2.2.2.2.2.2.2.2.2.2.2.1, hmdC.2.2.2.2.2.2.2.2.2.2.2.2.2.2.2.2⟩) hrx7 hN2 (fun m_o q_o => by by_cases e_o : (m_o : Int) < n_o; exact hno6 m_o e_o; have e2 : m_o = n_o.toNat := (by omega); subst e2; exact fun q2 => by have q3 := ham.mp q2; omega) (fun x_o hx => ((kset_ne (by omega)).trans (hx10 x_o hx))) (by omega)
                          · refine k_iconst h_o dX7_finds_107 ?_
                            exact k_iret h_o hr rfl (⟨_, rfl, Or.inl ⟨rfl, c_o.toNat, n_o.toNat, rx7, N2, ⟨⟨by omega, by omega⟩, by omega, ham.mpr (by omega), (fun m_o q_o => hno6 m_o (by omega)), (fun c2 m_o q1 q2 q3 => hno5 c2 m_o q1 (by omega) q3)⟩, ⟨by omega, by omega⟩, (by rw [show ((c_o.toNat : Nat) : Int) = c_o by omega]; exact hmdC), hrx7, hN2, (fun p_o q_o => hrow p_o (by omega) (by omega)), (fun x_o hx => ((kset_ne (by omega)).trans (hx10 x_o hx)))⟩⟩) (by omega) (by omega) dX7_finds_108
                        · refine k_aload_n h_o 0 dX7_finds_63 rfl rfl ?_
                          refine k_get h_o 19 kf_X7_44 hmd10.1 rfl dX7_finds_64 ?_
                          refine k_iload h_o 6 dX7_finds_67 rfl ?_
                          refine k_iload h_o 5 dX7_finds_69 rfl ?_
                          refine k_iload_n h_o 1 dX7_finds_71 rfl rfl ?_
                          refine k_irem h_o (by have := m_dv_le (K := K_o) (n := n_o.toNat) (t := (c_o - 1 - k_o).toNat); omega) (by omega) dX7_finds_72 ?_
                          refine k_top (z' := m_rw K_o c_o.toNat n_o.toNat k_o.toNat) (m_rw_d (by omega) (by omega)) ?_
                          refine k_iast h_o 35 hmd10.2.2.2.2.2.2.2.2.2.2.2.2.1 (by omega) (by decide) dX7_finds_73 ?_
                          refine k_iload h_o 5 dX7_finds_74 rfl ?_
                          refine k_iload_n h_o 1 dX7_finds_76 rfl rfl ?_
                          refine k_idiv h_o (by have := m_dv_le (K := K_o) (n := n_o.toNat) (t := (c_o - 1 - k_o).toNat); omega) (by omega) dX7_finds_77 ?_
                          refine k_top (z' := ((m_dv K_o n_o.toNat (c_o - 1 - (k_o - 1)).toNat : Nat) : Int)) (by rw [show (c_o - 1 - (k_o - 1)).toNat = (c_o - 1 - k_o).toNat + 1 by omega]; exact m_dv_s (by omega)) ?_
                          refine k_istore (lv' := [(5, .int (iI ((m_dv K_o n_o.toNat (c_o - 1 - (k_o - 1)).toNat : Nat) : Int))), (0, .ref (bd 25)), (1, .int (iI K_o)), (2, .int (iI L_o)), (3, .int (iI ((m_pw K_o (c_o).toNat : Nat) : Int))), (4, .int (iI n_o)), (6, .int (iI k_o))]) h_o dX7_finds_78 (by decide) rfl ?_
                          refine k_iinc (lv' := [(6, .int (iI (k_o + (-1)))), (5, .int (iI ((m_dv K_o n_o.toNat (c_o - 1 - (k_o - 1)).toNat : Nat) : Int))), (0, .ref (bd 25)), (1, .int (iI K_o)), (2, .int (iI L_o)), (3, .int (iI ((m_pw K_o (c_o).toNat : Nat) : Int))), (4, .int (iI n_o))]) h_o 6 dX7_finds_80 rfl (by decide) rfl ?_
                          refine k_goto h_o 58 dX7_finds_83 (by decide) ?_
                          refine k_sub (lv' := [(0, .ref (bd 25)), (1, .int (iI K_o)), (2, .int (iI L_o)), (3, .int (iI ((m_pw K_o (c_o).toNat : Nat) : Int))), (4, .int (iI n_o)), (5, .int (iI ((m_dv K_o n_o.toNat (c_o - 1 - (k_o - 1)).toNat : Nat) : Int))), (6, .int (iI (k_o + (-1))))]) [2, 3, 4, 5, 6, 1, 0] rfl ?_
                          exact ih58 (k_o - 1) (kup rx7 k_o.toNat (m_rw K_o c_o.toNat n_o.toNat k_o.toNat)) (kset w10_o 35 (bd 15) (ai 10 (kup rx7 k_o.toNat (m_rw K_o c_o.toNat n_o.toNat k_o.toNat)))) (by omega) (⟨((kset_ne (by decide)).trans hmd10.1), ((kset_ne (by decide)).trans hmd10.2.1), ((kset_ne (by decide)).trans hmd10.2.2.1), ((kset_ne (by decide)).trans hmd10.2.2.2.1), ((kset_ne (by decide)).trans hmd10.2.2.2.2.1), ((kset_ne (by decide)).trans hmd10.2.2.2.2.2.1), ((kset_ne (by decide)).trans hmd10.2.2.2.2.2.2.1), ((kset_ne (by decide)).trans hmd10.2.2.2.2.2.2.2.1), ((kset_ne (by decide)).trans hmd10.2.2.2.2.2.2.2.2.1), ((kset_ne (by decide)).trans hmd10.2.2.2.2.2.2.2.2.2.1), ((kset_ne (by decide)).trans hmd10.2.2.2.2.2.2.2.2.2.2.1), ((kset_ne (by decide)).trans hmd10.2.2.2.2.2.2.2.2.2.2.2.1), kset_eq, ((kset_ne (by decide)).trans hmd10.2.2.2.2.2.2.2.2.2.2.2.2.2.1), ((kset_ne (by decide)).trans hmd10.2.2.2.2.2.2.2.2.2.2.2.2.2.2.1), ((kset_ne (by decide)).trans hmd10.2.2.2.2.2.2.2.2.2.2.2.2.2.2.2.1), ((kset_ne (by decide)).trans hmd10.2.2.2.2.2.2.2.2.2.2.2.2.2.2.2.2)⟩) (kLt_up hrx7 (m_rw_rg hK)) (fun p_o q1 q2 => by by_cases e_o : p_o = k_o.toNat; rw [e_o, kup_eq]; rw [kup_ne e_o]; exact hrow p_o (by omega) q2) (fun x_o hx => ((kset_ne (by omega)).trans (hx10 x_o hx))) (by omega)
                    refine k_sub (lv' := [(0, .ref (bd 25)), (1, .int (iI K_o)), (2, .int (iI L_o)), (3, .int (iI ((m_pw K_o (c_o).toNat : Nat) : Int))), (4, .int (iI n_o)), (5, .int (iI n_o)), (6, .int (iI (c_o - 1)))]) [2, 3, 4, 5, 6, 1, 0] rfl ?_
                    refine k_lv (lv' := [(0, .ref (bd 25)), (1, .int (iI K_o)), (2, .int (iI L_o)), (3, .int (iI ((m_pw K_o (c_o).toNat : Nat) : Int))), (4, .int (iI n_o)), (5, .int (iI ((m_dv K_o n_o.toNat (c_o - 1 - (c_o - 1)).toNat : Nat) : Int))), (6, .int (iI (c_o - 1)))]) (by rw [show ((m_dv K_o n_o.toNat (c_o - 1 - (c_o - 1)).toNat : Nat) : Int) = n_o from by rw [show (c_o - 1 - (c_o - 1)).toNat = 0 by omega, m_dv_0]; omega]) ?_
                    exact L58 (((c_o - 1) + 1 : Int).toNat + 1) (c_o - 1) rx6 w9_o (by omega) hmd9 hrx6 (fun p_o q1 q2 => by omega) (fun x_o hx => (hx9 x_o hx)) (by omega)
              refine k_sub (lv' := [(0, .ref (bd 25)), (1, .int (iI K_o)), (2, .int (iI L_o)), (3, .int (iI ((m_pw K_o (k_o).toNat : Nat) : Int))), (4, .int (iI 0))]) [1, 2, 3, 4, 0] rfl ?_
              refine k_lv (lv' := [(0, .ref (bd 25)), (1, .int (iI K_o)), (2, .int (iI L_o)), (3, .int (iI ((m_pw K_o (c_o).toNat : Nat) : Int))), (4, .int (iI 0))]) (by rw [show k_o = c_o by omega]) ?_
              exact L40 ((((m_pw K_o (c_o).toNat : Nat) : Int) - 0 : Int).toNat + 1) 0 rx5 N5 w8_o (by omega) hmd8 hrx5 hN5 (fun m_o q_o => by omega) (fun x_o hx => (hx8 x_o hx)) (by omega)
            · refine k_iload_n h_o 3 dX7_finds_27 rfl rfl ?_
              refine k_iload_n h_o 1 dX7_finds_28 rfl rfl ?_
              refine k_imul h_o dX7_finds_29 ?_
              refine k_top (z' := ((m_pw K_o (k_o + 1).toNat : Nat) : Int)) (by rw [show (k_o + 1).toNat = k_o.toNat + 1 by omega]; exact m_pw_s (by omega)) ?_
              refine k_istore_n (lv' := [(3, .int (iI ((m_pw K_o (k_o + 1).toNat : Nat) : Int))), (0, .ref (bd 25)), (1, .int (iI K_o)), (2, .int (iI L_o)), (4, .int (iI k_o))]) h_o dX7_finds_30 rfl (by decide) rfl ?_
              refine k_iinc (lv' := [(4, .int (iI (k_o + 1))), (3, .int (iI ((m_pw K_o (k_o + 1).toNat : Nat) : Int))), (0, .ref (bd 25)), (1, .int (iI K_o)), (2, .int (iI L_o))]) h_o 4 dX7_finds_31 rfl (by decide) rfl ?_
              refine k_goto h_o 18 dX7_finds_34 (by decide) ?_
              refine k_sub (lv' := [(0, .ref (bd 25)), (1, .int (iI K_o)), (2, .int (iI L_o)), (3, .int (iI ((m_pw K_o (k_o + 1).toNat : Nat) : Int))), (4, .int (iI (k_o + 1)))]) [2, 3, 4, 1, 0] rfl ?_
              exact ih18 (k_o + 1) (by omega) (by omega)
        refine k_sub (lv' := [(0, .ref (bd 25)), (1, .int (iI K_o)), (2, .int (iI L_o)), (3, .int (iI 1)), (4, .int (iI 0))]) [2, 3, 4, 1, 0] rfl ?_
        refine k_lv (lv' := [(0, .ref (bd 25)), (1, .int (iI K_o)), (2, .int (iI L_o)), (3, .int (iI ((m_pw K_o (0 : Int).toNat : Nat) : Int))), (4, .int (iI 0))]) (by rw [show ((m_pw K_o (0 : Int).toNat : Nat) : Int) = 1 from by unfold m_pw; rw [show (0 : Int).toNat = 0 from rfl, Nat.pow_zero]; rfl]) ?_
        exact L18 ((c_o - 0 : Int).toNat + 1) 0 (by omega) (by omega)
  exact L5 ((L_o + 1 - 1 : Int).toNat + 1) 1 rx N_o (kset w_o 19 (bd 25) (ob 9 [.ref (bd 0), .ref (bd 1), .ref (bd 2), .ref (bd 3), .ref (bd 4), .ref (bd 5), .ref (bd 6), .int (iI ((nr : Nat) : Int)), .ref (bd 8), .ref (bd 9), .ref (bd 10), .ref (bd 11), .int (iI ((T_o : Nat) : Int)), .long (lI fnd), .int (iI rel), .ref (bd 15), .int (iI 1), .ref (bd 17), .ref (bd 18), .int (iI tm), .ref (bd 20), .ref (bd 21), .int (iI sm), .int (iI dp), .int (iI th)])) (by omega) (⟨kset_eq, ((kset_ne (by decide)).trans hmd.2.1), ((kset_ne (by decide)).trans hmd.2.2.1), ((kset_ne (by decide)).trans hmd.2.2.2.1), ((kset_ne (by decide)).trans hmd.2.2.2.2.1), ((kset_ne (by decide)).trans hmd.2.2.2.2.2.1), ((kset_ne (by decide)).trans hmd.2.2.2.2.2.2.1), ((kset_ne (by decide)).trans hmd.2.2.2.2.2.2.2.1), ((kset_ne (by decide)).trans hmd.2.2.2.2.2.2.2.2.1), ((kset_ne (by decide)).trans hmd.2.2.2.2.2.2.2.2.2.1), ((kset_ne (by decide)).trans hmd.2.2.2.2.2.2.2.2.2.2.1), ((kset_ne (by decide)).trans hmd.2.2.2.2.2.2.2.2.2.2.2.1), ((kset_ne (by decide)).trans hmd.2.2.2.2.2.2.2.2.2.2.2.2.1), ((kset_ne (by decide)).trans hmd.2.2.2.2.2.2.2.2.2.2.2.2.2.1), ((kset_ne (by decide)).trans hmd.2.2.2.2.2.2.2.2.2.2.2.2.2.2.1), ((kset_ne (by decide)).trans hmd.2.2.2.2.2.2.2.2.2.2.2.2.2.2.2.1), ((kset_ne (by decide)).trans hmd.2.2.2.2.2.2.2.2.2.2.2.2.2.2.2.2)⟩) hrx hN_o (fun c2 m_o q1 q2 _ => by omega) (fun x_o hx => ((kset_ne (by omega)).trans rfl)) (by omega)

set_option maxHeartbeats 4000000 in
set_option maxRecDepth 100000 in
theorem c_X7_asksRow {E_o : kE} {l_o : Launch} (hl0 : l_o.stackTraces = false) {w_o : kW} {bd : Nat → Nat} {nr : Nat} {g_o : Nat → Nat → Int} {T_o : Nat} {cs ams ltA acA mnA : Nat → Int} {rel fnd sz : Int} {rx : Nat → Int} {N_o : Nat → Nat} {tm : Int} {tr sh sg : Nat → Int} {sm dp th : Int} {K_o L_o : Int} (hmd : kMd w_o bd nr g_o T_o cs ams ltA acA mnA rel fnd sz rx N_o tm tr sh sg sm dp th) (hrx : kLt rx) (hN_o : ∀ x_o, N_o x_o ≤ 1000) (hwf : kWf g_o nr) (hnr : nr ≤ 12) (hmn : ∀ r_o, r_o < nr → mnA r_o = m_np g_o r_o) (hK : -2147483648 ≤ K_o ∧ K_o < 2147483648) (hL : -2147483648 ≤ L_o ∧ L_o < 2147483648) : kM E_o l_o yX7_asksRow (.code yX7_asksRow cX7_asksRow 4 (some .boolean) :: kAL) { frames := 7, cells := 0, slots := 0, locals := 172 } 0 0 [.ref (bd 25), .int (iI K_o), .int (iI L_o)] w_o (pI (fun z_o w2_o => (((1 ≤ K_o ∧ K_o ≤ 3) ∧ 1 ≤ L_o ∧ L_o ≤ 4) ∧ 1 = z_o ∧ ∃ (c_o n_o : Nat) (rx2 : Nat → Int) (N2 : Nat → Nat), m_ar g_o nr K_o L_o c_o n_o ∧ (1 ≤ c_o ∧ c_o ≤ 4) ∧ (kMd w2_o bd nr g_o T_o cs ams ltA acA mnA rel fnd (((c_o : Nat) : Int)) rx2 N2 tm tr sh sg sm dp 0) ∧ kLt rx2 ∧ (∀ z_o, N2 z_o ≤ 1000) ∧ (∀ p_o : Nat, p_o < c_o → rx2 p_o = m_rw K_o c_o n_o p_o) ∧ kEx w_o w2_o kMk) ∨ (¬ ((1 ≤ K_o ∧ K_o ≤ 3) ∧ 1 ≤ L_o ∧ L_o ≤ 4) ∧ 0 = z_o ∧ (kMd w2_o bd nr g_o T_o cs ams ltA acA mnA rel fnd sz rx N_o tm tr sh sg sm dp 1) ∧ kEx w_o w2_o kMk) ∨ ((((1 ≤ K_o ∧ K_o ≤ 3) ∧ 1 ≤ L_o ∧ L_o ≤ 4) ∧ m_an g_o nr K_o L_o) ∧ 0 = z_o ∧ ∃ (sz2 : Int) (rx2 : Nat → Int) (N2 : Nat → Nat), (kMd w2_o bd nr g_o T_o cs ams ltA acA mnA rel fnd sz2 rx2 N2 tm tr sh sg sm dp 2) ∧ kLt rx2 ∧ (∀ z_o, N2 z_o ≤ 1000) ∧ kEx w_o w2_o kMk))) := by
  refine kM_of hl0 (by decide +kernel) (Nat.le_of_ble_eq_true rfl) ?_
  intro X_o hXl h_o hr hin
  subst hXl
  show kG E_o X_o 4 0 0 w_o 0 [(0, .ref (bd 25)), (1, .int (iI K_o)), (2, .int (iI L_o))] []
  refine k_iload_n h_o 1 dX7_asksRow_0 rfl rfl ?_
  refine k_i2l h_o (by omega) dX7_asksRow_1 ?_
  refine k_lconst (z := 1) h_o dX7_asksRow_2 (by decide) ?_
  refine k_ldc2l (z := 3) h_o kq_5_7 dX7_asksRow_3 (by decide) ?_
  refine k_callS (As := [.long (lI K_o), .long (lI 1), .long (lI 3)]) (rest := []) h_o mX7_in kq_4_216 (c_X7_in hl0 (by omega) (by decide) (by decide)) rfl rfl (Nat.le_of_ble_eq_true rfl) ⟨rfl, rfl, ⟨(Nat.le_of_ble_eq_true rfl), (Nat.le_of_ble_eq_true rfl)⟩, ⟨(Nat.le_of_ble_eq_true rfl), (Nat.le_of_ble_eq_true rfl)⟩⟩ dX7_asksRow_6 (kcI fun z6_o w6_o hp => ?_)
  obtain ⟨rfl, rfl⟩ := hp
  refine k_ifBeq h_o 28 dX7_asksRow_9 (by decide) (fun h9_o => ?_) (fun h9_o => ?_)
  · refine k_iconst h_o dX7_asksRow_28 ?_
    refine k_istore_n (lv' := [(3, .int (iI 0)), (0, .ref (bd 25)), (1, .int (iI K_o)), (2, .int (iI L_o))]) h_o dX7_asksRow_29 rfl (by decide) rfl ?_
    refine k_aload_n h_o 1 dX7_asksRow_30 rfl rfl ?_
    refine k_iload_n h_o 0 dX7_asksRow_31 rfl rfl ?_
    refine k_ifne h_o 39 (by decide) dX7_asksRow_32 (by decide) (fun h32_o => ?_) (fun h32_o => ?_)
    · exfalso; omega
    · refine k_iconst h_o dX7_asksRow_35 ?_
      refine k_goto h_o 53 dX7_asksRow_36 (by decide) ?_
      refine k_put (fs' := [.ref (bd 0), .ref (bd 1), .ref (bd 2), .ref (bd 3), .ref (bd 4), .ref (bd 5), .ref (bd 6), .int (iI ((nr : Nat) : Int)), .ref (bd 8), .ref (bd 9), .ref (bd 10), .ref (bd 11), .int (iI ((T_o : Nat) : Int)), .long (lI fnd), .int (iI rel), .ref (bd 15), .int (iI sz), .ref (bd 17), .ref (bd 18), .int (iI tm), .ref (bd 20), .ref (bd 21), .int (iI sm), .int (iI dp), .int (iI 1)]) h_o 19 kf_X7_60 kt_X7_24 hmd.1 rfl rfl (Nat.le_of_ble_eq_true rfl) rfl dX7_asksRow_53 ?_
      refine k_aload_n h_o 1 dX7_asksRow_56 rfl rfl ?_
      refine k_get h_o 19 kf_X7_60 kset_eq rfl dX7_asksRow_57 ?_
      refine k_ifne h_o 67 (by decide) dX7_asksRow_60 (by decide) (fun h60_o => ?_) (fun h60_o => ?_)
      · refine k_iconst h_o dX7_asksRow_67 ?_
        exact k_iret h_o hr rfl (⟨_, rfl, Or.inr (Or.inl ⟨(by omega), rfl, ⟨kset_eq, ((kset_ne (by decide)).trans hmd.2.1), ((kset_ne (by decide)).trans hmd.2.2.1), ((kset_ne (by decide)).trans hmd.2.2.2.1), ((kset_ne (by decide)).trans hmd.2.2.2.2.1), ((kset_ne (by decide)).trans hmd.2.2.2.2.2.1), ((kset_ne (by decide)).trans hmd.2.2.2.2.2.2.1), ((kset_ne (by decide)).trans hmd.2.2.2.2.2.2.2.1), ((kset_ne (by decide)).trans hmd.2.2.2.2.2.2.2.2.1), ((kset_ne (by decide)).trans hmd.2.2.2.2.2.2.2.2.2.1), ((kset_ne (by decide)).trans hmd.2.2.2.2.2.2.2.2.2.2.1), ((kset_ne (by decide)).trans hmd.2.2.2.2.2.2.2.2.2.2.2.1), ((kset_ne (by decide)).trans hmd.2.2.2.2.2.2.2.2.2.2.2.2.1), ((kset_ne (by decide)).trans hmd.2.2.2.2.2.2.2.2.2.2.2.2.2.1), ((kset_ne (by decide)).trans hmd.2.2.2.2.2.2.2.2.2.2.2.2.2.2.1), ((kset_ne (by decide)).trans hmd.2.2.2.2.2.2.2.2.2.2.2.2.2.2.2.1), ((kset_ne (by decide)).trans hmd.2.2.2.2.2.2.2.2.2.2.2.2.2.2.2.2)⟩, (fun x_o hx => ((kset_ne (by omega)).trans rfl))⟩)⟩) (by omega) (by omega) dX7_asksRow_68
      · exfalso; omega
  · refine k_iload_n h_o 2 dX7_asksRow_12 rfl rfl ?_
    refine k_i2l h_o (by omega) dX7_asksRow_13 ?_
    refine k_lconst (z := 1) h_o dX7_asksRow_14 (by decide) ?_
    refine k_ldc2l (z := 4) h_o kq_5_155 dX7_asksRow_15 (by decide) ?_
    refine k_callS (As := [.long (lI L_o), .long (lI 1), .long (lI 4)]) (rest := []) h_o mX7_in kq_4_216 (c_X7_in hl0 (by omega) (by decide) (by decide)) rfl rfl (Nat.le_of_ble_eq_true rfl) ⟨rfl, rfl, ⟨(Nat.le_of_ble_eq_true rfl), (Nat.le_of_ble_eq_true rfl)⟩, ⟨(Nat.le_of_ble_eq_true rfl), (Nat.le_of_ble_eq_true rfl)⟩⟩ dX7_asksRow_18 (kcI fun z18_o w18_o hp => ?_)
    obtain ⟨rfl, rfl⟩ := hp
    refine k_ifBeq h_o 28 dX7_asksRow_21 (by decide) (fun h21_o => ?_) (fun h21_o => ?_)
    · refine k_iconst h_o dX7_asksRow_28 ?_
      refine k_istore_n (lv' := [(3, .int (iI 0)), (0, .ref (bd 25)), (1, .int (iI K_o)), (2, .int (iI L_o))]) h_o dX7_asksRow_29 rfl (by decide) rfl ?_
      refine k_aload_n h_o 1 dX7_asksRow_30 rfl rfl ?_
      refine k_iload_n h_o 0 dX7_asksRow_31 rfl rfl ?_
      refine k_ifne h_o 39 (by decide) dX7_asksRow_32 (by decide) (fun h32_o => ?_) (fun h32_o => ?_)
      · exfalso; omega
      · refine k_iconst h_o dX7_asksRow_35 ?_
        refine k_goto h_o 53 dX7_asksRow_36 (by decide) ?_
        refine k_put (fs' := [.ref (bd 0), .ref (bd 1), .ref (bd 2), .ref (bd 3), .ref (bd 4), .ref (bd 5), .ref (bd 6), .int (iI ((nr : Nat) : Int)), .ref (bd 8), .ref (bd 9), .ref (bd 10), .ref (bd 11), .int (iI ((T_o : Nat) : Int)), .long (lI fnd), .int (iI rel), .ref (bd 15), .int (iI sz), .ref (bd 17), .ref (bd 18), .int (iI tm), .ref (bd 20), .ref (bd 21), .int (iI sm), .int (iI dp), .int (iI 1)]) h_o 19 kf_X7_60 kt_X7_24 hmd.1 rfl rfl (Nat.le_of_ble_eq_true rfl) rfl dX7_asksRow_53 ?_
        refine k_aload_n h_o 1 dX7_asksRow_56 rfl rfl ?_
        refine k_get h_o 19 kf_X7_60 kset_eq rfl dX7_asksRow_57 ?_
        refine k_ifne h_o 67 (by decide) dX7_asksRow_60 (by decide) (fun h60_o => ?_) (fun h60_o => ?_)
        · refine k_iconst h_o dX7_asksRow_67 ?_
          exact k_iret h_o hr rfl (⟨_, rfl, Or.inr (Or.inl ⟨(by omega), rfl, ⟨kset_eq, ((kset_ne (by decide)).trans hmd.2.1), ((kset_ne (by decide)).trans hmd.2.2.1), ((kset_ne (by decide)).trans hmd.2.2.2.1), ((kset_ne (by decide)).trans hmd.2.2.2.2.1), ((kset_ne (by decide)).trans hmd.2.2.2.2.2.1), ((kset_ne (by decide)).trans hmd.2.2.2.2.2.2.1), ((kset_ne (by decide)).trans hmd.2.2.2.2.2.2.2.1), ((kset_ne (by decide)).trans hmd.2.2.2.2.2.2.2.2.1), ((kset_ne (by decide)).trans hmd.2.2.2.2.2.2.2.2.2.1), ((kset_ne (by decide)).trans hmd.2.2.2.2.2.2.2.2.2.2.1), ((kset_ne (by decide)).trans hmd.2.2.2.2.2.2.2.2.2.2.2.1), ((kset_ne (by decide)).trans hmd.2.2.2.2.2.2.2.2.2.2.2.2.1), ((kset_ne (by decide)).trans hmd.2.2.2.2.2.2.2.2.2.2.2.2.2.1), ((kset_ne (by decide)).trans hmd.2.2.2.2.2.2.2.2.2.2.2.2.2.2.1), ((kset_ne (by decide)).trans hmd.2.2.2.2.2.2.2.2.2.2.2.2.2.2.2.1), ((kset_ne (by decide)).trans hmd.2.2.2.2.2.2.2.2.2.2.2.2.2.2.2.2)⟩, (fun x_o hx => ((kset_ne (by omega)).trans rfl))⟩)⟩) (by omega) (by omega) dX7_asksRow_68
        · exfalso; omega
    · refine k_iconst h_o dX7_asksRow_24 ?_
      refine k_goto h_o 29 dX7_asksRow_25 (by decide) ?_
      refine k_istore_n (lv' := [(3, .int (iI 1)), (0, .ref (bd 25)), (1, .int (iI K_o)), (2, .int (iI L_o))]) h_o dX7_asksRow_29 rfl (by decide) rfl ?_
      refine k_aload_n h_o 1 dX7_asksRow_30 rfl rfl ?_
      refine k_iload_n h_o 0 dX7_asksRow_31 rfl rfl ?_
      refine k_ifne h_o 39 (by decide) dX7_asksRow_32 (by decide) (fun h32_o => ?_) (fun h32_o => ?_)
      · refine k_aload_n h_o 1 dX7_asksRow_39 rfl rfl ?_
        refine k_iload_n h_o 2 dX7_asksRow_40 rfl rfl ?_
        refine k_iload_n h_o 3 dX7_asksRow_41 rfl rfl ?_
        refine k_callV (As := [.int (iI K_o), .int (iI L_o)]) (rest := [.ref (bd 25)]) h_o mX7_finds kq_5_156 (c_X7_finds hl0 hmd hrx hN_o hwf hnr hmn h9_o h21_o) 19 hmd.1 rfl rfl rfl (Nat.le_of_ble_eq_true rfl) ⟨rfl, rfl, ⟨(Nat.le_of_ble_eq_true rfl), (Nat.le_of_ble_eq_true rfl)⟩, ⟨(Nat.le_of_ble_eq_true rfl), (Nat.le_of_ble_eq_true rfl)⟩⟩ dX7_asksRow_42 (kcI fun zq48 wq48 hp => ?_)
        rcases hp with ⟨rfl, cq48, nq48, rxq48, Nq48, harq, hcq, hmdq48, hrxq48, hNq48, hrowq, hexq48⟩ | ⟨rfl, hanq, szq48, rxq48, Nq48, hmdq48, hrxq48, hNq48, hexq48⟩
        · refine k_ifne h_o 52 (by decide) dX7_asksRow_45 (by decide) (fun h45_o => ?_) (fun h45_o => ?_)
          · refine k_iconst h_o dX7_asksRow_52 ?_
            refine k_put (fs' := [.ref (bd 0), .ref (bd 1), .ref (bd 2), .ref (bd 3), .ref (bd 4), .ref (bd 5), .ref (bd 6), .int (iI ((nr : Nat) : Int)), .ref (bd 8), .ref (bd 9), .ref (bd 10), .ref (bd 11), .int (iI ((T_o : Nat) : Int)), .long (lI fnd), .int (iI rel), .ref (bd 15), .int (iI ((cq48 : Nat) : Int)), .ref (bd 17), .ref (bd 18), .int (iI tm), .ref (bd 20), .ref (bd 21), .int (iI sm), .int (iI dp), .int (iI 0)]) h_o 19 kf_X7_60 kt_X7_24 hmdq48.1 rfl rfl (Nat.le_of_ble_eq_true rfl) rfl dX7_asksRow_53 ?_
            refine k_aload_n h_o 1 dX7_asksRow_56 rfl rfl ?_
            refine k_get h_o 19 kf_X7_60 kset_eq rfl dX7_asksRow_57 ?_
            refine k_ifne h_o 67 (by decide) dX7_asksRow_60 (by decide) (fun h60_o => ?_) (fun h60_o => ?_)
            · exfalso; omega
            · refine k_iconst h_o dX7_asksRow_63 ?_
              refine k_goto h_o 68 dX7_asksRow_64 (by decide) ?_
              exact k_iret h_o hr rfl (⟨_, rfl, Or.inl ⟨⟨h9_o, h21_o⟩, rfl, cq48, nq48, rxq48, Nq48, harq, hcq, ⟨kset_eq, ((kset_ne (by decide)).trans hmdq48.2.1), ((kset_ne (by decide)).trans hmdq48.2.2.1), ((kset_ne (by decide)).trans hmdq48.2.2.2.1), ((kset_ne (by decide)).trans hmdq48.2.2.2.2.1), ((kset_ne (by decide)).trans hmdq48.2.2.2.2.2.1), ((kset_ne (by decide)).trans hmdq48.2.2.2.2.2.2.1), ((kset_ne (by decide)).trans hmdq48.2.2.2.2.2.2.2.1), ((kset_ne (by decide)).trans hmdq48.2.2.2.2.2.2.2.2.1), ((kset_ne (by decide)).trans hmdq48.2.2.2.2.2.2.2.2.2.1), ((kset_ne (by decide)).trans hmdq48.2.2.2.2.2.2.2.2.2.2.1), ((kset_ne (by decide)).trans hmdq48.2.2.2.2.2.2.2.2.2.2.2.1), ((kset_ne (by decide)).trans hmdq48.2.2.2.2.2.2.2.2.2.2.2.2.1), ((kset_ne (by decide)).trans hmdq48.2.2.2.2.2.2.2.2.2.2.2.2.2.1), ((kset_ne (by decide)).trans hmdq48.2.2.2.2.2.2.2.2.2.2.2.2.2.2.1), ((kset_ne (by decide)).trans hmdq48.2.2.2.2.2.2.2.2.2.2.2.2.2.2.2.1), ((kset_ne (by decide)).trans hmdq48.2.2.2.2.2.2.2.2.2.2.2.2.2.2.2.2)⟩, hrxq48, hNq48, hrowq, (fun x_o hx => ((kset_ne (by omega)).trans (hexq48 x_o hx)))⟩⟩) (by omega) (by omega) dX7_asksRow_68
          · exfalso; omega
        · refine k_ifne h_o 52 (by decide) dX7_asksRow_45 (by decide) (fun h45_o => ?_) (fun h45_o => ?_)
          · exfalso; omega
          · refine k_iconst h_o dX7_asksRow_48 ?_
            refine k_goto h_o 53 dX7_asksRow_49 (by decide) ?_
            refine k_put (fs' := [.ref (bd 0), .ref (bd 1), .ref (bd 2), .ref (bd 3), .ref (bd 4), .ref (bd 5), .ref (bd 6), .int (iI ((nr : Nat) : Int)), .ref (bd 8), .ref (bd 9), .ref (bd 10), .ref (bd 11), .int (iI ((T_o : Nat) : Int)), .long (lI fnd), .int (iI rel), .ref (bd 15), .int (iI szq48), .ref (bd 17), .ref (bd 18), .int (iI tm), .ref (bd 20), .ref (bd 21), .int (iI sm), .int (iI dp), .int (iI 2)]) h_o 19 kf_X7_60 kt_X7_24 hmdq48.1 rfl rfl (Nat.le_of_ble_eq_true rfl) rfl dX7_asksRow_53 ?_
            refine k_aload_n h_o 1 dX7_asksRow_56 rfl rfl ?_
            refine k_get h_o 19 kf_X7_60 kset_eq rfl dX7_asksRow_57 ?_
            refine k_ifne h_o 67 (by decide) dX7_asksRow_60 (by decide) (fun h60_o => ?_) (fun h60_o => ?_)
            · refine k_iconst h_o dX7_asksRow_67 ?_
              exact k_iret h_o hr rfl (⟨_, rfl, Or.inr (Or.inr ⟨⟨⟨h9_o, h21_o⟩, hanq⟩, rfl, szq48, rxq48, Nq48, ⟨kset_eq, ((kset_ne (by decide)).trans hmdq48.2.1), ((kset_ne (by decide)).trans hmdq48.2.2.1), ((kset_ne (by decide)).trans hmdq48.2.2.2.1), ((kset_ne (by decide)).trans hmdq48.2.2.2.2.1), ((kset_ne (by decide)).trans hmdq48.2.2.2.2.2.1), ((kset_ne (by decide)).trans hmdq48.2.2.2.2.2.2.1), ((kset_ne (by decide)).trans hmdq48.2.2.2.2.2.2.2.1), ((kset_ne (by decide)).trans hmdq48.2.2.2.2.2.2.2.2.1), ((kset_ne (by decide)).trans hmdq48.2.2.2.2.2.2.2.2.2.1), ((kset_ne (by decide)).trans hmdq48.2.2.2.2.2.2.2.2.2.2.1), ((kset_ne (by decide)).trans hmdq48.2.2.2.2.2.2.2.2.2.2.2.1), ((kset_ne (by decide)).trans hmdq48.2.2.2.2.2.2.2.2.2.2.2.2.1), ((kset_ne (by decide)).trans hmdq48.2.2.2.2.2.2.2.2.2.2.2.2.2.1), ((kset_ne (by decide)).trans hmdq48.2.2.2.2.2.2.2.2.2.2.2.2.2.2.1), ((kset_ne (by decide)).trans hmdq48.2.2.2.2.2.2.2.2.2.2.2.2.2.2.2.1), ((kset_ne (by decide)).trans hmdq48.2.2.2.2.2.2.2.2.2.2.2.2.2.2.2.2)⟩, hrxq48, hNq48, (fun x_o hx => ((kset_ne (by omega)).trans (hexq48 x_o hx)))⟩)⟩) (by omega) (by omega) dX7_asksRow_68
            · exfalso; omega
      · exfalso; omega

set_option maxHeartbeats 4000000 in
set_option maxRecDepth 100000 in
theorem c_X7_ambiguous {E_o : kE} {l_o : Launch} (hl0 : l_o.stackTraces = false) {w_o : kW} {bd : Nat → Nat} {nr : Nat} {g_o : Nat → Nat → Int} {T_o : Nat} {lts : Nat → Nat → Int} {cs : Nat → Int} {acs : Nat → Nat → Int} {ams : Nat → Int} {rel fnd th : Int} {K_o L_o : Int} (hst : kMu w_o bd nr g_o T_o lts cs acs ams rel fnd th) (hK : -2147483648 ≤ K_o ∧ K_o < 2147483648) (hL : -2147483648 ≤ L_o ∧ L_o < 2147483648) : kM E_o l_o yX7_ambiguous (.code yX7_ambiguous cX7_ambiguous 3 (some .int) :: kAL) { frames := 8, cells := 0, slots := 0, locals := 195 } 0 0 [.ref (bd 25), .int (iI K_o), .int (iI L_o)] w_o (pI (fun z_o w2_o => ((((1 ≤ K_o ∧ K_o ≤ 3) ∧ 1 ≤ L_o ∧ L_o ≤ 4) ∧ ∃ n_o : Nat, m_ar g_o nr K_o L_o z_o.toNat n_o ∧ (1 ≤ z_o ∧ z_o ≤ 4)) ∧ kMv w_o w2_o bd nr g_o T_o lts cs acs ams rel fnd 0) ∨ (¬ ((1 ≤ K_o ∧ K_o ≤ 3) ∧ 1 ≤ L_o ∧ L_o ≤ 4) ∧ kMv w_o w2_o bd nr g_o T_o lts cs acs ams rel fnd 1) ∨ ((((1 ≤ K_o ∧ K_o ≤ 3) ∧ 1 ≤ L_o ∧ L_o ≤ 4) ∧ m_an g_o nr K_o L_o) ∧ kMv w_o w2_o bd nr g_o T_o lts cs acs ams rel fnd 2))) := by
  refine kM_of hl0 (by decide +kernel) (Nat.le_of_ble_eq_true rfl) ?_
  intro X_o hXl h_o hr hin
  subst hXl
  obtain ⟨ltA, acA, mnA, sz, rx, N_o, tm, tr, sh, sg, sm, dp, hmd, hI, hrx, hN_o⟩ := hst
  obtain ⟨hwf, hnr, hT6, hmn, hg0, htx⟩ := id hI
  show kG E_o X_o 3 0 0 w_o 0 [(0, .ref (bd 25)), (1, .int (iI K_o)), (2, .int (iI L_o))] []
  refine k_aload_n h_o 0 dX7_ambiguous_0 rfl rfl ?_
  refine k_iload_n h_o 1 dX7_ambiguous_1 rfl rfl ?_
  refine k_iload_n h_o 2 dX7_ambiguous_2 rfl rfl ?_
  refine k_callV (As := [.int (iI K_o), .int (iI L_o)]) (rest := []) h_o mX7_asksRow kq_5_151 (c_X7_asksRow hl0 hmd hrx hN_o hwf hnr hmn (by omega) (by omega)) 19 hmd.1 rfl rfl rfl (Nat.le_of_ble_eq_true rfl) ⟨rfl, rfl, ⟨(Nat.le_of_ble_eq_true rfl), (Nat.le_of_ble_eq_true rfl)⟩, ⟨(Nat.le_of_ble_eq_true rfl), (Nat.le_of_ble_eq_true rfl)⟩⟩ dX7_ambiguous_3 (kcI fun zq49 wq49 hp => ?_)
  rcases hp with ⟨hKL, rfl, cq49, nq49, rxq49, Nq49, harq, hcq, hmdq49, hrxq49, hNq49, hrowq, hexq49⟩ | ⟨hKL, rfl, hmdq49, hexq49⟩ | ⟨⟨hKL, hanq⟩, rfl, szq49, rxq49, Nq49, hmdq49, hrxq49, hNq49, hexq49⟩
  · refine k_ifeq h_o 16 (by decide) dX7_ambiguous_6 (by decide) (fun h6_o => ?_) (fun h6_o => ?_)
    · exfalso; omega
    · refine k_aload_n h_o 0 dX7_ambiguous_9 rfl rfl ?_
      refine k_get h_o 19 kf_X7_93 hmdq49.1 rfl dX7_ambiguous_10 ?_
      refine k_goto h_o 17 dX7_ambiguous_13 (by decide) ?_
      have hmdZ : (kMd wq49 bd nr g_o T_o cs ams ltA acA mnA rel fnd (((cq49 : Nat) : Int)) rxq49 Nq49 tm tr sh sg sm dp 0) := ⟨hmdq49.1, hmdq49.2.1, hmdq49.2.2.1, hmdq49.2.2.2.1, hmdq49.2.2.2.2.1, hmdq49.2.2.2.2.2.1, hmdq49.2.2.2.2.2.2.1, hmdq49.2.2.2.2.2.2.2.1, hmdq49.2.2.2.2.2.2.2.2.1, hmdq49.2.2.2.2.2.2.2.2.2.1, hmdq49.2.2.2.2.2.2.2.2.2.2.1, hmdq49.2.2.2.2.2.2.2.2.2.2.2.1, hmdq49.2.2.2.2.2.2.2.2.2.2.2.2.1, hmdq49.2.2.2.2.2.2.2.2.2.2.2.2.2.1, hmdq49.2.2.2.2.2.2.2.2.2.2.2.2.2.2.1, hmdq49.2.2.2.2.2.2.2.2.2.2.2.2.2.2.2.1, hmdq49.2.2.2.2.2.2.2.2.2.2.2.2.2.2.2.2⟩
      exact k_iret h_o hr rfl (⟨_, rfl, Or.inl ⟨⟨hKL, nq49, (by rw [Int.toNat_natCast]; exact harq), (by omega)⟩, ⟨⟨_, _, _, _, _, _, _, _, _, _, _, _, hmdZ, hI, hrxq49, hNq49⟩, (fun x_o hx => (hexq49 x_o hx))⟩⟩⟩) (by omega) (by omega) dX7_ambiguous_17
  · refine k_ifeq h_o 16 (by decide) dX7_ambiguous_6 (by decide) (fun h6_o => ?_) (fun h6_o => ?_)
    · refine k_iconst h_o dX7_ambiguous_16 ?_
      have hmdZ : (kMd wq49 bd nr g_o T_o cs ams ltA acA mnA rel fnd sz rx N_o tm tr sh sg sm dp 1) := ⟨hmdq49.1, hmdq49.2.1, hmdq49.2.2.1, hmdq49.2.2.2.1, hmdq49.2.2.2.2.1, hmdq49.2.2.2.2.2.1, hmdq49.2.2.2.2.2.2.1, hmdq49.2.2.2.2.2.2.2.1, hmdq49.2.2.2.2.2.2.2.2.1, hmdq49.2.2.2.2.2.2.2.2.2.1, hmdq49.2.2.2.2.2.2.2.2.2.2.1, hmdq49.2.2.2.2.2.2.2.2.2.2.2.1, hmdq49.2.2.2.2.2.2.2.2.2.2.2.2.1, hmdq49.2.2.2.2.2.2.2.2.2.2.2.2.2.1, hmdq49.2.2.2.2.2.2.2.2.2.2.2.2.2.2.1, hmdq49.2.2.2.2.2.2.2.2.2.2.2.2.2.2.2.1, hmdq49.2.2.2.2.2.2.2.2.2.2.2.2.2.2.2.2⟩
      exact k_iret h_o hr rfl (⟨_, rfl, Or.inr (Or.inl ⟨hKL, ⟨⟨_, _, _, _, _, _, _, _, _, _, _, _, hmdZ, hI, hrx, hN_o⟩, (fun x_o hx => (hexq49 x_o hx))⟩⟩)⟩) (by omega) (by omega) dX7_ambiguous_17
    · exfalso; omega
  · refine k_ifeq h_o 16 (by decide) dX7_ambiguous_6 (by decide) (fun h6_o => ?_) (fun h6_o => ?_)
    · refine k_iconst h_o dX7_ambiguous_16 ?_
      have hmdZ : (kMd wq49 bd nr g_o T_o cs ams ltA acA mnA rel fnd szq49 rxq49 Nq49 tm tr sh sg sm dp 2) := ⟨hmdq49.1, hmdq49.2.1, hmdq49.2.2.1, hmdq49.2.2.2.1, hmdq49.2.2.2.2.1, hmdq49.2.2.2.2.2.1, hmdq49.2.2.2.2.2.2.1, hmdq49.2.2.2.2.2.2.2.1, hmdq49.2.2.2.2.2.2.2.2.1, hmdq49.2.2.2.2.2.2.2.2.2.1, hmdq49.2.2.2.2.2.2.2.2.2.2.1, hmdq49.2.2.2.2.2.2.2.2.2.2.2.1, hmdq49.2.2.2.2.2.2.2.2.2.2.2.2.1, hmdq49.2.2.2.2.2.2.2.2.2.2.2.2.2.1, hmdq49.2.2.2.2.2.2.2.2.2.2.2.2.2.2.1, hmdq49.2.2.2.2.2.2.2.2.2.2.2.2.2.2.2.1, hmdq49.2.2.2.2.2.2.2.2.2.2.2.2.2.2.2.2⟩
      exact k_iret h_o hr rfl (⟨_, rfl, Or.inr (Or.inr ⟨⟨hKL, hanq⟩, ⟨⟨_, _, _, _, _, _, _, _, _, _, _, _, hmdZ, hI, hrxq49, hNq49⟩, (fun x_o hx => (hexq49 x_o hx))⟩⟩)⟩) (by omega) (by omega) dX7_ambiguous_17
    · exfalso; omega

set_option maxHeartbeats 4000000 in
set_option maxRecDepth 100000 in
theorem c_X7_ambiguousAt {E_o : kE} {l_o : Launch} (hl0 : l_o.stackTraces = false) {w_o : kW} {bd : Nat → Nat} {nr : Nat} {g_o : Nat → Nat → Int} {T_o : Nat} {lts : Nat → Nat → Int} {cs : Nat → Int} {acs : Nat → Nat → Int} {ams : Nat → Int} {rel fnd th : Int} {K_o L_o p_o : Int} (hst : kMu w_o bd nr g_o T_o lts cs acs ams rel fnd th) (hK : -2147483648 ≤ K_o ∧ K_o < 2147483648) (hL : -2147483648 ≤ L_o ∧ L_o < 2147483648) (hp : -2147483648 ≤ p_o ∧ p_o < 2147483648) : kM E_o l_o yX7_ambiguousAt (.code yX7_ambiguousAt cX7_ambiguousAt 4 (some .int) :: kAL) { frames := 8, cells := 0, slots := 0, locals := 195 } 0 0 [.ref (bd 25), .int (iI K_o), .int (iI L_o), .int (iI p_o)] w_o (pI (fun z_o w2_o => ((((1 ≤ K_o ∧ K_o ≤ 3) ∧ 1 ≤ L_o ∧ L_o ≤ 4) ∧ ∃ c_o n_o : Nat, m_ar g_o nr K_o L_o c_o n_o ∧ (1 ≤ c_o ∧ c_o ≤ 4) ∧ (0 ≤ p_o ∧ p_o < (c_o : Int)) ∧ m_rw K_o c_o n_o p_o.toNat = z_o) ∧ kMv w_o w2_o bd nr g_o T_o lts cs acs ams rel fnd 0) ∨ (¬ ((1 ≤ K_o ∧ K_o ≤ 3) ∧ 1 ≤ L_o ∧ L_o ≤ 4) ∧ kMv w_o w2_o bd nr g_o T_o lts cs acs ams rel fnd 1) ∨ ((((1 ≤ K_o ∧ K_o ≤ 3) ∧ 1 ≤ L_o ∧ L_o ≤ 4) ∧ (m_an g_o nr K_o L_o ∨ ∃ c_o n_o : Nat, m_ar g_o nr K_o L_o c_o n_o ∧ ¬ (0 ≤ p_o ∧ p_o < (c_o : Int)))) ∧ kMv w_o w2_o bd nr g_o T_o lts cs acs ams rel fnd 2))) := by
  refine kM_of hl0 (by decide +kernel) (Nat.le_of_ble_eq_true rfl) ?_
  intro X_o hXl h_o hr hin
  subst hXl
  obtain ⟨ltA, acA, mnA, sz, rx, N_o, tm, tr, sh, sg, sm, dp, hmd, hI, hrx, hN_o⟩ := hst
  obtain ⟨hwf, hnr, hT6, hmn, hg0, htx⟩ := id hI
  show kG E_o X_o 4 0 0 w_o 0 [(0, .ref (bd 25)), (1, .int (iI K_o)), (2, .int (iI L_o)), (3, .int (iI p_o))] []
  refine k_aload_n h_o 0 dX7_ambiguousAt_0 rfl rfl ?_
  refine k_iload_n h_o 1 dX7_ambiguousAt_1 rfl rfl ?_
  refine k_iload_n h_o 2 dX7_ambiguousAt_2 rfl rfl ?_
  refine k_callV (As := [.int (iI K_o), .int (iI L_o)]) (rest := []) h_o mX7_asksRow kq_5_151 (c_X7_asksRow hl0 hmd hrx hN_o hwf hnr hmn (by omega) (by omega)) 19 hmd.1 rfl rfl rfl (Nat.le_of_ble_eq_true rfl) ⟨rfl, rfl, ⟨(Nat.le_of_ble_eq_true rfl), (Nat.le_of_ble_eq_true rfl)⟩, ⟨(Nat.le_of_ble_eq_true rfl), (Nat.le_of_ble_eq_true rfl)⟩⟩ dX7_ambiguousAt_3 (kcI fun zq50 wq50 hp => ?_)
  rcases hp with ⟨hKL, rfl, cq50, nq50, rxq50, Nq50, harq, hcq, hmdq50, hrxq50, hNq50, hrowq, hexq50⟩ | ⟨hKL, rfl, hmdq50, hexq50⟩ | ⟨⟨hKL, hanq⟩, rfl, szq50, rxq50, Nq50, hmdq50, hrxq50, hNq50, hexq50⟩
  · refine k_ifeq h_o 34 (by decide) dX7_ambiguousAt_6 (by decide) (fun h6_o => ?_) (fun h6_o => ?_)
    · exfalso; omega
    · refine k_aload_n h_o 0 dX7_ambiguousAt_9 rfl rfl ?_
      refine k_iload_n h_o 3 dX7_ambiguousAt_10 rfl rfl ?_
      refine k_i2l h_o (by omega) dX7_ambiguousAt_11 ?_
      refine k_lconst (z := 0) h_o dX7_ambiguousAt_12 (by decide) ?_
      refine k_aload_n h_o 0 dX7_ambiguousAt_13 rfl rfl ?_
      refine k_get h_o 19 kf_X7_93 hmdq50.1 rfl dX7_ambiguousAt_14 ?_
      refine k_iconst h_o dX7_ambiguousAt_17 ?_
      refine k_isub h_o dX7_ambiguousAt_18 ?_
      refine k_i2l h_o (by omega) dX7_ambiguousAt_19 ?_
      refine k_callS (As := [.long (lI p_o), .long (lI 0), .long (lI (((cq50 : Nat) : Int) - 1))]) (rest := [.ref (bd 25)]) h_o mX7_in kq_4_216 (c_X7_in hl0 (by omega) (by decide) (by omega)) rfl rfl (Nat.le_of_ble_eq_true rfl) ⟨rfl, rfl, ⟨(Nat.le_of_ble_eq_true rfl), (Nat.le_of_ble_eq_true rfl)⟩, ⟨(Nat.le_of_ble_eq_true rfl), (Nat.le_of_ble_eq_true rfl)⟩⟩ dX7_ambiguousAt_20 (kcI fun z20_o w20_o hp => ?_)
      obtain ⟨rfl, rfl⟩ := hp
      refine k_ifBeq h_o 30 dX7_ambiguousAt_23 (by decide) (fun h23_o => ?_) (fun h23_o => ?_)
      · refine k_iconst h_o dX7_ambiguousAt_30 ?_
        refine k_put (fs' := [.ref (bd 0), .ref (bd 1), .ref (bd 2), .ref (bd 3), .ref (bd 4), .ref (bd 5), .ref (bd 6), .int (iI ((nr : Nat) : Int)), .ref (bd 8), .ref (bd 9), .ref (bd 10), .ref (bd 11), .int (iI ((T_o : Nat) : Int)), .long (lI fnd), .int (iI rel), .ref (bd 15), .int (iI ((cq50 : Nat) : Int)), .ref (bd 17), .ref (bd 18), .int (iI tm), .ref (bd 20), .ref (bd 21), .int (iI sm), .int (iI dp), .int (iI 2)]) h_o 19 kf_X7_60 kt_X7_24 hmdq50.1 rfl rfl (Nat.le_of_ble_eq_true rfl) rfl dX7_ambiguousAt_31 ?_
        refine k_aload_n h_o 0 dX7_ambiguousAt_34 rfl rfl ?_
        refine k_get h_o 19 kf_X7_60 kset_eq rfl dX7_ambiguousAt_35 ?_
        refine k_ifne h_o 50 (by decide) dX7_ambiguousAt_38 (by decide) (fun h38_o => ?_) (fun h38_o => ?_)
        · refine k_iconst h_o dX7_ambiguousAt_50 ?_
          have hmdZ : (kMd ((kset wq50 19 (bd 25) (ob 9 [.ref (bd 0), .ref (bd 1), .ref (bd 2), .ref (bd 3), .ref (bd 4), .ref (bd 5), .ref (bd 6), .int (iI ((nr : Nat) : Int)), .ref (bd 8), .ref (bd 9), .ref (bd 10), .ref (bd 11), .int (iI ((T_o : Nat) : Int)), .long (lI fnd), .int (iI rel), .ref (bd 15), .int (iI ((cq50 : Nat) : Int)), .ref (bd 17), .ref (bd 18), .int (iI tm), .ref (bd 20), .ref (bd 21), .int (iI sm), .int (iI dp), .int (iI 2)]))) bd nr g_o T_o cs ams ltA acA mnA rel fnd (((cq50 : Nat) : Int)) rxq50 Nq50 tm tr sh sg sm dp 2) := ⟨kset_eq, ((kset_ne (by decide)).trans hmdq50.2.1), ((kset_ne (by decide)).trans hmdq50.2.2.1), ((kset_ne (by decide)).trans hmdq50.2.2.2.1), ((kset_ne (by decide)).trans hmdq50.2.2.2.2.1), ((kset_ne (by decide)).trans hmdq50.2.2.2.2.2.1), ((kset_ne (by decide)).trans hmdq50.2.2.2.2.2.2.1), ((kset_ne (by decide)).trans hmdq50.2.2.2.2.2.2.2.1), ((kset_ne (by decide)).trans hmdq50.2.2.2.2.2.2.2.2.1), ((kset_ne (by decide)).trans hmdq50.2.2.2.2.2.2.2.2.2.1), ((kset_ne (by decide)).trans hmdq50.2.2.2.2.2.2.2.2.2.2.1), ((kset_ne (by decide)).trans hmdq50.2.2.2.2.2.2.2.2.2.2.2.1), ((kset_ne (by decide)).trans hmdq50.2.2.2.2.2.2.2.2.2.2.2.2.1), ((kset_ne (by decide)).trans hmdq50.2.2.2.2.2.2.2.2.2.2.2.2.2.1), ((kset_ne (by decide)).trans hmdq50.2.2.2.2.2.2.2.2.2.2.2.2.2.2.1), ((kset_ne (by decide)).trans hmdq50.2.2.2.2.2.2.2.2.2.2.2.2.2.2.2.1), ((kset_ne (by decide)).trans hmdq50.2.2.2.2.2.2.2.2.2.2.2.2.2.2.2.2)⟩
          exact k_iret h_o hr rfl (⟨_, rfl, Or.inr (Or.inr ⟨⟨hKL, Or.inr ⟨cq50, nq50, harq, (by omega)⟩⟩, ⟨⟨_, _, _, _, _, _, _, _, _, _, _, _, hmdZ, hI, hrxq50, hNq50⟩, (fun x_o hx => ((kset_ne (by omega)).trans (hexq50 x_o hx)))⟩⟩)⟩) (by omega) (by omega) dX7_ambiguousAt_51
        · exfalso; omega
      · refine k_iconst h_o dX7_ambiguousAt_26 ?_
        refine k_goto h_o 31 dX7_ambiguousAt_27 (by decide) ?_
        refine k_put (fs' := [.ref (bd 0), .ref (bd 1), .ref (bd 2), .ref (bd 3), .ref (bd 4), .ref (bd 5), .ref (bd 6), .int (iI ((nr : Nat) : Int)), .ref (bd 8), .ref (bd 9), .ref (bd 10), .ref (bd 11), .int (iI ((T_o : Nat) : Int)), .long (lI fnd), .int (iI rel), .ref (bd 15), .int (iI ((cq50 : Nat) : Int)), .ref (bd 17), .ref (bd 18), .int (iI tm), .ref (bd 20), .ref (bd 21), .int (iI sm), .int (iI dp), .int (iI 0)]) h_o 19 kf_X7_60 kt_X7_24 hmdq50.1 rfl rfl (Nat.le_of_ble_eq_true rfl) rfl dX7_ambiguousAt_31 ?_
        refine k_aload_n h_o 0 dX7_ambiguousAt_34 rfl rfl ?_
        refine k_get h_o 19 kf_X7_60 kset_eq rfl dX7_ambiguousAt_35 ?_
        refine k_ifne h_o 50 (by decide) dX7_ambiguousAt_38 (by decide) (fun h38_o => ?_) (fun h38_o => ?_)
        · exfalso; omega
        · refine k_aload_n h_o 0 dX7_ambiguousAt_41 rfl rfl ?_
          refine k_get h_o 19 kf_X7_44 kset_eq rfl dX7_ambiguousAt_42 ?_
          refine k_iload_n h_o 3 dX7_ambiguousAt_45 rfl rfl ?_
          refine k_iald h_o 35 ((kset_ne (by decide)).trans hmdq50.2.2.2.2.2.2.2.2.2.2.2.2.1) (by omega) (by decide) dX7_ambiguousAt_46 ?_
          refine k_goto h_o 51 dX7_ambiguousAt_47 (by decide) ?_
          have hmdZ : (kMd ((kset wq50 19 (bd 25) (ob 9 [.ref (bd 0), .ref (bd 1), .ref (bd 2), .ref (bd 3), .ref (bd 4), .ref (bd 5), .ref (bd 6), .int (iI ((nr : Nat) : Int)), .ref (bd 8), .ref (bd 9), .ref (bd 10), .ref (bd 11), .int (iI ((T_o : Nat) : Int)), .long (lI fnd), .int (iI rel), .ref (bd 15), .int (iI ((cq50 : Nat) : Int)), .ref (bd 17), .ref (bd 18), .int (iI tm), .ref (bd 20), .ref (bd 21), .int (iI sm), .int (iI dp), .int (iI 0)]))) bd nr g_o T_o cs ams ltA acA mnA rel fnd (((cq50 : Nat) : Int)) rxq50 Nq50 tm tr sh sg sm dp 0) := ⟨kset_eq, ((kset_ne (by decide)).trans hmdq50.2.1), ((kset_ne (by decide)).trans hmdq50.2.2.1), ((kset_ne (by decide)).trans hmdq50.2.2.2.1), ((kset_ne (by decide)).trans hmdq50.2.2.2.2.1), ((kset_ne (by decide)).trans hmdq50.2.2.2.2.2.1), ((kset_ne (by decide)).trans hmdq50.2.2.2.2.2.2.1), ((kset_ne (by decide)).trans hmdq50.2.2.2.2.2.2.2.1), ((kset_ne (by decide)).trans hmdq50.2.2.2.2.2.2.2.2.1), ((kset_ne (by decide)).trans hmdq50.2.2.2.2.2.2.2.2.2.1), ((kset_ne (by decide)).trans hmdq50.2.2.2.2.2.2.2.2.2.2.1), ((kset_ne (by decide)).trans hmdq50.2.2.2.2.2.2.2.2.2.2.2.1), ((kset_ne (by decide)).trans hmdq50.2.2.2.2.2.2.2.2.2.2.2.2.1), ((kset_ne (by decide)).trans hmdq50.2.2.2.2.2.2.2.2.2.2.2.2.2.1), ((kset_ne (by decide)).trans hmdq50.2.2.2.2.2.2.2.2.2.2.2.2.2.2.1), ((kset_ne (by decide)).trans hmdq50.2.2.2.2.2.2.2.2.2.2.2.2.2.2.2.1), ((kset_ne (by decide)).trans hmdq50.2.2.2.2.2.2.2.2.2.2.2.2.2.2.2.2)⟩
          exact k_iret h_o hr rfl (⟨_, rfl, Or.inl ⟨⟨hKL, cq50, nq50, harq, hcq, (by omega), (hrowq p_o.toNat (by omega)).symm⟩, ⟨⟨_, _, _, _, _, _, _, _, _, _, _, _, hmdZ, hI, hrxq50, hNq50⟩, (fun x_o hx => ((kset_ne (by omega)).trans (hexq50 x_o hx)))⟩⟩⟩) (by omega) (by omega) dX7_ambiguousAt_51
  · refine k_ifeq h_o 34 (by decide) dX7_ambiguousAt_6 (by decide) (fun h6_o => ?_) (fun h6_o => ?_)
    · refine k_aload_n h_o 0 dX7_ambiguousAt_34 rfl rfl ?_
      refine k_get h_o 19 kf_X7_60 hmdq50.1 rfl dX7_ambiguousAt_35 ?_
      refine k_ifne h_o 50 (by decide) dX7_ambiguousAt_38 (by decide) (fun h38_o => ?_) (fun h38_o => ?_)
      · refine k_iconst h_o dX7_ambiguousAt_50 ?_
        have hmdZ : (kMd wq50 bd nr g_o T_o cs ams ltA acA mnA rel fnd sz rx N_o tm tr sh sg sm dp 1) := ⟨hmdq50.1, hmdq50.2.1, hmdq50.2.2.1, hmdq50.2.2.2.1, hmdq50.2.2.2.2.1, hmdq50.2.2.2.2.2.1, hmdq50.2.2.2.2.2.2.1, hmdq50.2.2.2.2.2.2.2.1, hmdq50.2.2.2.2.2.2.2.2.1, hmdq50.2.2.2.2.2.2.2.2.2.1, hmdq50.2.2.2.2.2.2.2.2.2.2.1, hmdq50.2.2.2.2.2.2.2.2.2.2.2.1, hmdq50.2.2.2.2.2.2.2.2.2.2.2.2.1, hmdq50.2.2.2.2.2.2.2.2.2.2.2.2.2.1, hmdq50.2.2.2.2.2.2.2.2.2.2.2.2.2.2.1, hmdq50.2.2.2.2.2.2.2.2.2.2.2.2.2.2.2.1, hmdq50.2.2.2.2.2.2.2.2.2.2.2.2.2.2.2.2⟩
        exact k_iret h_o hr rfl (⟨_, rfl, Or.inr (Or.inl ⟨hKL, ⟨⟨_, _, _, _, _, _, _, _, _, _, _, _, hmdZ, hI, hrx, hN_o⟩, (fun x_o hx => (hexq50 x_o hx))⟩⟩)⟩) (by omega) (by omega) dX7_ambiguousAt_51
      · exfalso; omega
    · exfalso; omega
  · refine k_ifeq h_o 34 (by decide) dX7_ambiguousAt_6 (by decide) (fun h6_o => ?_) (fun h6_o => ?_)
    · refine k_aload_n h_o 0 dX7_ambiguousAt_34 rfl rfl ?_
      refine k_get h_o 19 kf_X7_60 hmdq50.1 rfl dX7_ambiguousAt_35 ?_
      refine k_ifne h_o 50 (by decide) dX7_ambiguousAt_38 (by decide) (fun h38_o => ?_) (fun h38_o => ?_)
      · refine k_iconst h_o dX7_ambiguousAt_50 ?_
        have hmdZ : (kMd wq50 bd nr g_o T_o cs ams ltA acA mnA rel fnd szq50 rxq50 Nq50 tm tr sh sg sm dp 2) := ⟨hmdq50.1, hmdq50.2.1, hmdq50.2.2.1, hmdq50.2.2.2.1, hmdq50.2.2.2.2.1, hmdq50.2.2.2.2.2.1, hmdq50.2.2.2.2.2.2.1, hmdq50.2.2.2.2.2.2.2.1, hmdq50.2.2.2.2.2.2.2.2.1, hmdq50.2.2.2.2.2.2.2.2.2.1, hmdq50.2.2.2.2.2.2.2.2.2.2.1, hmdq50.2.2.2.2.2.2.2.2.2.2.2.1, hmdq50.2.2.2.2.2.2.2.2.2.2.2.2.1, hmdq50.2.2.2.2.2.2.2.2.2.2.2.2.2.1, hmdq50.2.2.2.2.2.2.2.2.2.2.2.2.2.2.1, hmdq50.2.2.2.2.2.2.2.2.2.2.2.2.2.2.2.1, hmdq50.2.2.2.2.2.2.2.2.2.2.2.2.2.2.2.2⟩
        exact k_iret h_o hr rfl (⟨_, rfl, Or.inr (Or.inr ⟨⟨hKL, Or.inl hanq⟩, ⟨⟨_, _, _, _, _, _, _, _, _, _, _, _, hmdZ, hI, hrxq50, hNq50⟩, (fun x_o hx => (hexq50 x_o hx))⟩⟩)⟩) (by omega) (by omega) dX7_ambiguousAt_51
      · exfalso; omega
    · exfalso; omega

set_option maxHeartbeats 4000000 in
set_option maxRecDepth 100000 in
theorem c_X7_init {E_o : kE} {l_o : Launch} (hl0 : l_o.stackTraces = false) {w_o : kW} {a_o : Nat} (ha : w_o 19 = some (a_o, ob 9 [.null, .null, .null, .null, .null, .null, .null, .int (iI 0), .null, .null, .null, .null, .int (iI 0), .long (lI 0), .int (iI 0), .null, .int (iI 0), .null, .null, .int (iI 0), .null, .null, .int (iI 0), .int (iI 0), .int (iI 0)])) : kM E_o l_o yX7_init (.code yX7_init cX7_init 1 none :: kAL) { frames := 1, cells := 16, slots := 1464, locals := 12 } 16 1464 [.ref a_o] w_o (pV (fun w2_o => (∃ bd : Nat → Nat, bd 25 = a_o ∧ kMu w2_o bd 0 k0a 0 k0a k0b k0a k0b 0 0 0) ∧ kEx w_o w2_o kMk)) := by
  refine kM_of hl0 (by decide +kernel) (Nat.le_of_ble_eq_true rfl) ?_
  intro X_o hXl h_o hr hin
  subst hXl
  replace hin := hin rfl
  show kG E_o X_o 1 0 0 w_o 0 [(0, .ref a_o)] []
  refine k_aload_n h_o 0 dX7_init_0 rfl rfl ?_
  refine k_objInit h_o kq_4_124 kq_1_28 kq_1_29 ⟨(Nat.le_of_ble_eq_true rfl), (Nat.le_of_ble_eq_true rfl)⟩ dX7_init_1 ?_
  refine k_aload_n h_o 0 dX7_init_4 rfl rfl ?_
  refine k_bipush h_o dX7_init_5 (by decide) ?_
  refine k_newa (atype := .int) (t := 0) (N := 12) (a0 := (12, .inl (fun _ => iI 0))) h_o 20 kq_1_69 rfl (fun cA => rfl) rfl (by decide) ⟨(Nat.le_of_ble_eq_true rfl), (Nat.le_of_ble_eq_true rfl)⟩ dX7_init_7 (fun b0 => ?_)
  refine k_putF (fs' := [.ref b0, .null, .null, .null, .null, .null, .null, .int (iI 0), .null, .null, .null, .null, .int (iI 0), .long (lI 0), .int (iI 0), .null, .int (iI 0), .null, .null, .int (iI 0), .null, .null, .int (iI 0), .int (iI 0), .int (iI 0)]) h_o hin 19 kf_X7_7 kt_X7_0 ((kset_ne (by decide)).trans ha) rfl rfl (Nat.le_of_ble_eq_true rfl) rfl dX7_init_9 ?_
  refine k_aload_n h_o 0 dX7_init_12 rfl rfl ?_
  refine k_bipush h_o dX7_init_13 (by decide) ?_
  refine k_newa (atype := .int) (t := 0) (N := 36) (a0 := (36, .inl (fun _ => iI 0))) h_o 21 kq_1_69 rfl (fun cA => rfl) rfl (by decide) ⟨(Nat.le_of_ble_eq_true rfl), (Nat.le_of_ble_eq_true rfl)⟩ dX7_init_15 (fun b1 => ?_)
  refine k_putF (fs' := [.ref b0, .ref b1, .null, .null, .null, .null, .null, .int (iI 0), .null, .null, .null, .null, .int (iI 0), .long (lI 0), .int (iI 0), .null, .int (iI 0), .null, .null, .int (iI 0), .null, .null, .int (iI 0), .int (iI 0), .int (iI 0)]) h_o hin 19 kf_X7_13 kt_X7_1 ((kset_ne (by decide)).trans kset_eq) rfl rfl (Nat.le_of_ble_eq_true rfl) rfl dX7_init_17 ?_
  refine k_aload_n h_o 0 dX7_init_20 rfl rfl ?_
  refine k_bipush h_o dX7_init_21 (by decide) ?_
  refine k_newa (atype := .int) (t := 0) (N := 12) (a0 := (12, .inl (fun _ => iI 0))) h_o 22 kq_1_69 rfl (fun cA => rfl) rfl (by decide) ⟨(Nat.le_of_ble_eq_true rfl), (Nat.le_of_ble_eq_true rfl)⟩ dX7_init_23 (fun b2 => ?_)
  refine k_putF (fs' := [.ref b0, .ref b1, .ref b2, .null, .null, .null, .null, .int (iI 0), .null, .null, .null, .null, .int (iI 0), .long (lI 0), .int (iI 0), .null, .int (iI 0), .null, .null, .int (iI 0), .null, .null, .int (iI 0), .int (iI 0), .int (iI 0)]) h_o hin 19 kf_X7_16 kt_X7_2 ((kset_ne (by decide)).trans kset_eq) rfl rfl (Nat.le_of_ble_eq_true rfl) rfl dX7_init_25 ?_
  refine k_aload_n h_o 0 dX7_init_28 rfl rfl ?_
  refine k_bipush h_o dX7_init_29 (by decide) ?_
  refine k_newa (atype := .int) (t := 0) (N := 12) (a0 := (12, .inl (fun _ => iI 0))) h_o 23 kq_1_69 rfl (fun cA => rfl) rfl (by decide) ⟨(Nat.le_of_ble_eq_true rfl), (Nat.le_of_ble_eq_true rfl)⟩ dX7_init_31 (fun b3 => ?_)
  refine k_putF (fs' := [.ref b0, .ref b1, .ref b2, .ref b3, .null, .null, .null, .int (iI 0), .null, .null, .null, .null, .int (iI 0), .long (lI 0), .int (iI 0), .null, .int (iI 0), .null, .null, .int (iI 0), .null, .null, .int (iI 0), .int (iI 0), .int (iI 0)]) h_o hin 19 kf_X7_19 kt_X7_3 ((kset_ne (by decide)).trans kset_eq) rfl rfl (Nat.le_of_ble_eq_true rfl) rfl dX7_init_33 ?_
  refine k_aload_n h_o 0 dX7_init_36 rfl rfl ?_
  refine k_bipush h_o dX7_init_37 (by decide) ?_
  refine k_newa (atype := .int) (t := 0) (N := 12) (a0 := (12, .inl (fun _ => iI 0))) h_o 24 kq_1_69 rfl (fun cA => rfl) rfl (by decide) ⟨(Nat.le_of_ble_eq_true rfl), (Nat.le_of_ble_eq_true rfl)⟩ dX7_init_39 (fun b4 => ?_)
  refine k_putF (fs' := [.ref b0, .ref b1, .ref b2, .ref b3, .ref b4, .null, .null, .int (iI 0), .null, .null, .null, .null, .int (iI 0), .long (lI 0), .int (iI 0), .null, .int (iI 0), .null, .null, .int (iI 0), .null, .null, .int (iI 0), .int (iI 0), .int (iI 0)]) h_o hin 19 kf_X7_22 kt_X7_4 ((kset_ne (by decide)).trans kset_eq) rfl rfl (Nat.le_of_ble_eq_true rfl) rfl dX7_init_41 ?_
  refine k_aload_n h_o 0 dX7_init_44 rfl rfl ?_
  refine k_bipush h_o dX7_init_45 (by decide) ?_
  refine k_newa (atype := .int) (t := 0) (N := 12) (a0 := (12, .inl (fun _ => iI 0))) h_o 25 kq_1_69 rfl (fun cA => rfl) rfl (by decide) ⟨(Nat.le_of_ble_eq_true rfl), (Nat.le_of_ble_eq_true rfl)⟩ dX7_init_47 (fun b5 => ?_)
  refine k_putF (fs' := [.ref b0, .ref b1, .ref b2, .ref b3, .ref b4, .ref b5, .null, .int (iI 0), .null, .null, .null, .null, .int (iI 0), .long (lI 0), .int (iI 0), .null, .int (iI 0), .null, .null, .int (iI 0), .null, .null, .int (iI 0), .int (iI 0), .int (iI 0)]) h_o hin 19 kf_X7_25 kt_X7_5 ((kset_ne (by decide)).trans kset_eq) rfl rfl (Nat.le_of_ble_eq_true rfl) rfl dX7_init_49 ?_
  refine k_aload_n h_o 0 dX7_init_52 rfl rfl ?_
  refine k_bipush h_o dX7_init_53 (by decide) ?_
  refine k_newa (atype := .boolean) (t := 1) (N := 12) (a0 := (12, .inl (fun _ => iI 0))) h_o 26 kq_4_201 rfl (fun cA => rfl) rfl (by decide) ⟨(Nat.le_of_ble_eq_true rfl), (Nat.le_of_ble_eq_true rfl)⟩ dX7_init_55 (fun b6 => ?_)
  refine k_putF (fs' := [.ref b0, .ref b1, .ref b2, .ref b3, .ref b4, .ref b5, .ref b6, .int (iI 0), .null, .null, .null, .null, .int (iI 0), .long (lI 0), .int (iI 0), .null, .int (iI 0), .null, .null, .int (iI 0), .null, .null, .int (iI 0), .int (iI 0), .int (iI 0)]) h_o hin 19 kf_X7_28 kt_X7_6 ((kset_ne (by decide)).trans kset_eq) rfl rfl (Nat.le_of_ble_eq_true rfl) rfl dX7_init_57 ?_
  refine k_aload_n h_o 0 dX7_init_60 rfl rfl ?_
  refine k_bipush h_o dX7_init_61 (by decide) ?_
  refine k_newa (atype := .int) (t := 0) (N := 60) (a0 := (60, .inl (fun _ => iI 0))) h_o 28 kq_1_69 rfl (fun cA => rfl) rfl (by decide) ⟨(Nat.le_of_ble_eq_true rfl), (Nat.le_of_ble_eq_true rfl)⟩ dX7_init_63 (fun b8 => ?_)
  refine k_putF (fs' := [.ref b0, .ref b1, .ref b2, .ref b3, .ref b4, .ref b5, .ref b6, .int (iI 0), .ref b8, .null, .null, .null, .int (iI 0), .long (lI 0), .int (iI 0), .null, .int (iI 0), .null, .null, .int (iI 0), .null, .null, .int (iI 0), .int (iI 0), .int (iI 0)]) h_o hin 19 kf_X7_32 kt_X7_8 ((kset_ne (by decide)).trans kset_eq) rfl rfl (Nat.le_of_ble_eq_true rfl) rfl dX7_init_65 ?_
  refine k_aload_n h_o 0 dX7_init_68 rfl rfl ?_
  refine k_bipush h_o dX7_init_69 (by decide) ?_
  refine k_newa (atype := .int) (t := 0) (N := 6) (a0 := (6, .inl (fun _ => iI 0))) h_o 29 kq_1_69 rfl (fun cA => rfl) rfl (by decide) ⟨(Nat.le_of_ble_eq_true rfl), (Nat.le_of_ble_eq_true rfl)⟩ dX7_init_71 (fun b9 => ?_)
  refine k_putF (fs' := [.ref b0, .ref b1, .ref b2, .ref b3, .ref b4, .ref b5, .ref b6, .int (iI 0), .ref b8, .ref b9, .null, .null, .int (iI 0), .long (lI 0), .int (iI 0), .null, .int (iI 0), .null, .null, .int (iI 0), .null, .null, .int (iI 0), .int (iI 0), .int (iI 0)]) h_o hin 19 kf_X7_35 kt_X7_9 ((kset_ne (by decide)).trans kset_eq) rfl rfl (Nat.le_of_ble_eq_true rfl) rfl dX7_init_73 ?_
  refine k_aload_n h_o 0 dX7_init_76 rfl rfl ?_
  refine k_sipush h_o dX7_init_77 (by decide) ?_
  refine k_newa (atype := .int) (t := 0) (N := 600) (a0 := (600, .inl (fun _ => iI 0))) h_o 30 kq_1_69 rfl (fun cA => rfl) rfl (by decide) ⟨(Nat.le_of_ble_eq_true rfl), (Nat.le_of_ble_eq_true rfl)⟩ dX7_init_80 (fun b10 => ?_)
  refine k_putF (fs' := [.ref b0, .ref b1, .ref b2, .ref b3, .ref b4, .ref b5, .ref b6, .int (iI 0), .ref b8, .ref b9, .ref b10, .null, .int (iI 0), .long (lI 0), .int (iI 0), .null, .int (iI 0), .null, .null, .int (iI 0), .null, .null, .int (iI 0), .int (iI 0), .int (iI 0)]) h_o hin 19 kf_X7_38 kt_X7_10 ((kset_ne (by decide)).trans kset_eq) rfl rfl (Nat.le_of_ble_eq_true rfl) rfl dX7_init_82 ?_
  refine k_aload_n h_o 0 dX7_init_85 rfl rfl ?_
  refine k_bipush h_o dX7_init_86 (by decide) ?_
  refine k_newa (atype := .int) (t := 0) (N := 6) (a0 := (6, .inl (fun _ => iI 0))) h_o 31 kq_1_69 rfl (fun cA => rfl) rfl (by decide) ⟨(Nat.le_of_ble_eq_true rfl), (Nat.le_of_ble_eq_true rfl)⟩ dX7_init_88 (fun b11 => ?_)
  refine k_putF (fs' := [.ref b0, .ref b1, .ref b2, .ref b3, .ref b4, .ref b5, .ref b6, .int (iI 0), .ref b8, .ref b9, .ref b10, .ref b11, .int (iI 0), .long (lI 0), .int (iI 0), .null, .int (iI 0), .null, .null, .int (iI 0), .null, .null, .int (iI 0), .int (iI 0), .int (iI 0)]) h_o hin 19 kf_X7_41 kt_X7_11 ((kset_ne (by decide)).trans kset_eq) rfl rfl (Nat.le_of_ble_eq_true rfl) rfl dX7_init_90 ?_
  refine k_aload_n h_o 0 dX7_init_93 rfl rfl ?_
  refine k_bipush h_o dX7_init_94 (by decide) ?_
  refine k_newa (atype := .int) (t := 0) (N := 10) (a0 := (10, .inl (fun _ => iI 0))) h_o 35 kq_1_69 rfl (fun cA => rfl) rfl (by decide) ⟨(Nat.le_of_ble_eq_true rfl), (Nat.le_of_ble_eq_true rfl)⟩ dX7_init_96 (fun b15 => ?_)
  refine k_putF (fs' := [.ref b0, .ref b1, .ref b2, .ref b3, .ref b4, .ref b5, .ref b6, .int (iI 0), .ref b8, .ref b9, .ref b10, .ref b11, .int (iI 0), .long (lI 0), .int (iI 0), .ref b15, .int (iI 0), .null, .null, .int (iI 0), .null, .null, .int (iI 0), .int (iI 0), .int (iI 0)]) h_o hin 19 kf_X7_44 kt_X7_15 ((kset_ne (by decide)).trans kset_eq) rfl rfl (Nat.le_of_ble_eq_true rfl) rfl dX7_init_98 ?_
  refine k_aload_n h_o 0 dX7_init_101 rfl rfl ?_
  refine k_sipush h_o dX7_init_102 (by decide) ?_
  refine k_newa (atype := .int) (t := 0) (N := 500) (a0 := (500, .inl (fun _ => iI 0))) h_o 37 kq_1_69 rfl (fun cA => rfl) rfl (by decide) ⟨(Nat.le_of_ble_eq_true rfl), (Nat.le_of_ble_eq_true rfl)⟩ dX7_init_105 (fun b17 => ?_)
  refine k_putF (fs' := [.ref b0, .ref b1, .ref b2, .ref b3, .ref b4, .ref b5, .ref b6, .int (iI 0), .ref b8, .ref b9, .ref b10, .ref b11, .int (iI 0), .long (lI 0), .int (iI 0), .ref b15, .int (iI 0), .ref b17, .null, .int (iI 0), .null, .null, .int (iI 0), .int (iI 0), .int (iI 0)]) h_o hin 19 kf_X7_47 kt_X7_17 ((kset_ne (by decide)).trans kset_eq) rfl rfl (Nat.le_of_ble_eq_true rfl) rfl dX7_init_107 ?_
  refine k_aload_n h_o 0 dX7_init_110 rfl rfl ?_
  refine k_bipush h_o dX7_init_111 (by decide) ?_
  refine k_newa (atype := .int) (t := 0) (N := 100) (a0 := (100, .inl (fun _ => iI 0))) h_o 38 kq_1_69 rfl (fun cA => rfl) rfl (by decide) ⟨(Nat.le_of_ble_eq_true rfl), (Nat.le_of_ble_eq_true rfl)⟩ dX7_init_113 (fun b18 => ?_)
  refine k_putF (fs' := [.ref b0, .ref b1, .ref b2, .ref b3, .ref b4, .ref b5, .ref b6, .int (iI 0), .ref b8, .ref b9, .ref b10, .ref b11, .int (iI 0), .long (lI 0), .int (iI 0), .ref b15, .int (iI 0), .ref b17, .ref b18, .int (iI 0), .null, .null, .int (iI 0), .int (iI 0), .int (iI 0)]) h_o hin 19 kf_X7_50 kt_X7_18 ((kset_ne (by decide)).trans kset_eq) rfl rfl (Nat.le_of_ble_eq_true rfl) rfl dX7_init_115 ?_
  refine k_aload_n h_o 0 dX7_init_118 rfl rfl ?_
  refine k_bipush h_o dX7_init_119 (by decide) ?_
  refine k_newa (atype := .int) (t := 0) (N := 10) (a0 := (10, .inl (fun _ => iI 0))) h_o 40 kq_1_69 rfl (fun cA => rfl) rfl (by decide) ⟨(Nat.le_of_ble_eq_true rfl), (Nat.le_of_ble_eq_true rfl)⟩ dX7_init_121 (fun b20 => ?_)
  refine k_putF (fs' := [.ref b0, .ref b1, .ref b2, .ref b3, .ref b4, .ref b5, .ref b6, .int (iI 0), .ref b8, .ref b9, .ref b10, .ref b11, .int (iI 0), .long (lI 0), .int (iI 0), .ref b15, .int (iI 0), .ref b17, .ref b18, .int (iI 0), .ref b20, .null, .int (iI 0), .int (iI 0), .int (iI 0)]) h_o hin 19 kf_X7_53 kt_X7_20 ((kset_ne (by decide)).trans kset_eq) rfl rfl (Nat.le_of_ble_eq_true rfl) rfl dX7_init_123 ?_
  refine k_aload_n h_o 0 dX7_init_126 rfl rfl ?_
  refine k_bipush h_o dX7_init_127 (by decide) ?_
  refine k_newa (atype := .char) (t := 2) (N := 64) (a0 := (64, .inl (fun _ => iI 0))) h_o 41 kq_4_202 rfl (fun cA => rfl) rfl (by decide) ⟨(Nat.le_of_ble_eq_true rfl), (Nat.le_of_ble_eq_true rfl)⟩ dX7_init_129 (fun b21 => ?_)
  refine k_putF (fs' := [.ref b0, .ref b1, .ref b2, .ref b3, .ref b4, .ref b5, .ref b6, .int (iI 0), .ref b8, .ref b9, .ref b10, .ref b11, .int (iI 0), .long (lI 0), .int (iI 0), .ref b15, .int (iI 0), .ref b17, .ref b18, .int (iI 0), .ref b20, .ref b21, .int (iI 0), .int (iI 0), .int (iI 0)]) h_o hin 19 kf_X7_56 kt_X7_21 ((kset_ne (by decide)).trans kset_eq) rfl rfl (Nat.le_of_ble_eq_true rfl) rfl dX7_init_131 ?_
  exact k_vret h_o hr (⟨rfl, kMu.new kset_eq ((kset_ne (by decide)).trans ((kset_ne (by decide)).trans ((kset_ne (by decide)).trans ((kset_ne (by decide)).trans ((kset_ne (by decide)).trans ((kset_ne (by decide)).trans ((kset_ne (by decide)).trans ((kset_ne (by decide)).trans ((kset_ne (by decide)).trans ((kset_ne (by decide)).trans ((kset_ne (by decide)).trans ((kset_ne (by decide)).trans ((kset_ne (by decide)).trans ((kset_ne (by decide)).trans ((kset_ne (by decide)).trans ((kset_ne (by decide)).trans ((kset_ne (by decide)).trans ((kset_ne (by decide)).trans ((kset_ne (by decide)).trans ((kset_ne (by decide)).trans ((kset_ne (by decide)).trans ((kset_ne (by decide)).trans ((kset_ne (by decide)).trans ((kset_ne (by decide)).trans ((kset_ne (by decide)).trans ((kset_ne (by decide)).trans ((kset_ne (by decide)).trans ((kset_ne (by decide)).trans ((kset_ne (by decide)).trans ((kset_ne (by decide)).trans ((kset_ne (by decide)).trans kset_eq))))))))))))))))))))))))))))))) ((kset_ne (by decide)).trans ((kset_ne (by decide)).trans ((kset_ne (by decide)).trans ((kset_ne (by decide)).trans ((kset_ne (by decide)).trans ((kset_ne (by decide)).trans ((kset_ne (by decide)).trans ((kset_ne (by decide)).trans ((kset_ne (by decide)).trans ((kset_ne (by decide)).trans ((kset_ne (by decide)).trans ((kset_ne (by decide)).trans ((kset_ne (by decide)).trans ((kset_ne (by decide)).trans ((kset_ne (by decide)).trans ((kset_ne (by decide)).trans ((kset_ne (by decide)).trans ((kset_ne (by decide)).trans ((kset_ne (by decide)).trans ((kset_ne (by decide)).trans ((kset_ne (by decide)).trans ((kset_ne (by decide)).trans ((kset_ne (by decide)).trans ((kset_ne (by decide)).trans ((kset_ne (by decide)).trans ((kset_ne (by decide)).trans ((kset_ne (by decide)).trans ((kset_ne (by decide)).trans ((kset_ne (by decide)).trans kset_eq))))))))))))))))))))))))))))) ((kset_ne (by decide)).trans ((kset_ne (by decide)).trans ((kset_ne (by decide)).trans ((kset_ne (by decide)).trans ((kset_ne (by decide)).trans ((kset_ne (by decide)).trans ((kset_ne (by decide)).trans ((kset_ne (by decide)).trans ((kset_ne (by decide)).trans ((kset_ne (by decide)).trans ((kset_ne (by decide)).trans ((kset_ne (by decide)).trans ((kset_ne (by decide)).trans ((kset_ne (by decide)).trans ((kset_ne (by decide)).trans ((kset_ne (by decide)).trans ((kset_ne (by decide)).trans ((kset_ne (by decide)).trans ((kset_ne (by decide)).trans ((kset_ne (by decide)).trans ((kset_ne (by decide)).trans ((kset_ne (by decide)).trans ((kset_ne (by decide)).trans ((kset_ne (by decide)).trans ((kset_ne (by decide)).trans ((kset_ne (by decide)).trans ((kset_ne (by decide)).trans kset_eq))))))))))))))))))))))))))) ((kset_ne (by decide)).trans ((kset_ne (by decide)).trans ((kset_ne (by decide)).trans ((kset_ne (by decide)).trans ((kset_ne (by decide)).trans ((kset_ne (by decide)).trans ((kset_ne (by decide)).trans ((kset_ne (by decide)).trans ((kset_ne (by decide)).trans ((kset_ne (by decide)).trans ((kset_ne (by decide)).trans ((kset_ne (by decide)).trans ((kset_ne (by decide)).trans ((kset_ne (by decide)).trans ((kset_ne (by decide)).trans ((kset_ne (by decide)).trans ((kset_ne (by decide)).trans ((kset_ne (by decide)).trans ((kset_ne (by decide)).trans ((kset_ne (by decide)).trans ((kset_ne (by decide)).trans ((kset_ne (by decide)).trans ((kset_ne (by decide)).trans ((kset_ne (by decide)).trans ((kset_ne (by decide)).trans kset_eq))))))))))))))))))))))))) ((kset_ne (by decide)).trans ((kset_ne (by decide)).trans ((kset_ne (by decide)).trans ((kset_ne (by decide)).trans ((kset_ne (by decide)).trans ((kset_ne (by decide)).trans ((kset_ne (by decide)).trans ((kset_ne (by decide)).trans ((kset_ne (by decide)).trans ((kset_ne (by decide)).trans ((kset_ne (by decide)).trans ((kset_ne (by decide)).trans ((kset_ne (by decide)).trans ((kset_ne (by decide)).trans ((kset_ne (by decide)).trans ((kset_ne (by decide)).trans ((kset_ne (by decide)).trans ((kset_ne (by decide)).trans ((kset_ne (by decide)).trans ((kset_ne (by decide)).trans ((kset_ne (by decide)).trans ((kset_ne (by decide)).trans ((kset_ne (by decide)).trans kset_eq))))))))))))))))))))))) ((kset_ne (by decide)).trans ((kset_ne (by decide)).trans ((kset_ne (by decide)).trans ((kset_ne (by decide)).trans ((kset_ne (by decide)).trans ((kset_ne (by decide)).trans ((kset_ne (by decide)).trans ((kset_ne (by decide)).trans ((kset_ne (by decide)).trans ((kset_ne (by decide)).trans ((kset_ne (by decide)).trans ((kset_ne (by decide)).trans ((kset_ne (by decide)).trans ((kset_ne (by decide)).trans ((kset_ne (by decide)).trans ((kset_ne (by decide)).trans ((kset_ne (by decide)).trans ((kset_ne (by decide)).trans ((kset_ne (by decide)).trans ((kset_ne (by decide)).trans ((kset_ne (by decide)).trans kset_eq))))))))))))))))))))) ((kset_ne (by decide)).trans ((kset_ne (by decide)).trans ((kset_ne (by decide)).trans ((kset_ne (by decide)).trans ((kset_ne (by decide)).trans ((kset_ne (by decide)).trans ((kset_ne (by decide)).trans ((kset_ne (by decide)).trans ((kset_ne (by decide)).trans ((kset_ne (by decide)).trans ((kset_ne (by decide)).trans ((kset_ne (by decide)).trans ((kset_ne (by decide)).trans ((kset_ne (by decide)).trans ((kset_ne (by decide)).trans ((kset_ne (by decide)).trans ((kset_ne (by decide)).trans ((kset_ne (by decide)).trans ((kset_ne (by decide)).trans kset_eq))))))))))))))))))) ((kset_ne (by decide)).trans ((kset_ne (by decide)).trans ((kset_ne (by decide)).trans ((kset_ne (by decide)).trans ((kset_ne (by decide)).trans ((kset_ne (by decide)).trans ((kset_ne (by decide)).trans ((kset_ne (by decide)).trans ((kset_ne (by decide)).trans ((kset_ne (by decide)).trans ((kset_ne (by decide)).trans ((kset_ne (by decide)).trans ((kset_ne (by decide)).trans ((kset_ne (by decide)).trans ((kset_ne (by decide)).trans ((kset_ne (by decide)).trans ((kset_ne (by decide)).trans kset_eq))))))))))))))))) ((kset_ne (by decide)).trans ((kset_ne (by decide)).trans ((kset_ne (by decide)).trans ((kset_ne (by decide)).trans ((kset_ne (by decide)).trans ((kset_ne (by decide)).trans ((kset_ne (by decide)).trans ((kset_ne (by decide)).trans ((kset_ne (by decide)).trans ((kset_ne (by decide)).trans ((kset_ne (by decide)).trans ((kset_ne (by decide)).trans ((kset_ne (by decide)).trans ((kset_ne (by decide)).trans ((kset_ne (by decide)).trans kset_eq))))))))))))))) ((kset_ne (by decide)).trans ((kset_ne (by decide)).trans ((kset_ne (by decide)).trans ((kset_ne (by decide)).trans ((kset_ne (by decide)).trans ((kset_ne (by decide)).trans ((kset_ne (by decide)).trans ((kset_ne (by decide)).trans ((kset_ne (by decide)).trans ((kset_ne (by decide)).trans ((kset_ne (by decide)).trans ((kset_ne (by decide)).trans ((kset_ne (by decide)).trans kset_eq))))))))))))) ((kset_ne (by decide)).trans ((kset_ne (by decide)).trans ((kset_ne (by decide)).trans ((kset_ne (by decide)).trans ((kset_ne (by decide)).trans ((kset_ne (by decide)).trans ((kset_ne (by decide)).trans ((kset_ne (by decide)).trans ((kset_ne (by decide)).trans ((kset_ne (by decide)).trans ((kset_ne (by decide)).trans kset_eq))))))))))) ((kset_ne (by decide)).trans ((kset_ne (by decide)).trans ((kset_ne (by decide)).trans ((kset_ne (by decide)).trans ((kset_ne (by decide)).trans ((kset_ne (by decide)).trans ((kset_ne (by decide)).trans ((kset_ne (by decide)).trans ((kset_ne (by decide)).trans kset_eq))))))))) ((kset_ne (by decide)).trans ((kset_ne (by decide)).trans ((kset_ne (by decide)).trans ((kset_ne (by decide)).trans ((kset_ne (by decide)).trans ((kset_ne (by decide)).trans ((kset_ne (by decide)).trans kset_eq))))))) ((kset_ne (by decide)).trans ((kset_ne (by decide)).trans ((kset_ne (by decide)).trans ((kset_ne (by decide)).trans ((kset_ne (by decide)).trans kset_eq))))) ((kset_ne (by decide)).trans ((kset_ne (by decide)).trans ((kset_ne (by decide)).trans kset_eq))) ((kset_ne (by decide)).trans kset_eq), (fun x_o hx => ((kset_ne (by omega)).trans ((kset_ne (by omega)).trans ((kset_ne (by omega)).trans ((kset_ne (by omega)).trans ((kset_ne (by omega)).trans ((kset_ne (by omega)).trans ((kset_ne (by omega)).trans ((kset_ne (by omega)).trans ((kset_ne (by omega)).trans ((kset_ne (by omega)).trans ((kset_ne (by omega)).trans ((kset_ne (by omega)).trans ((kset_ne (by omega)).trans ((kset_ne (by omega)).trans ((kset_ne (by omega)).trans ((kset_ne (by omega)).trans ((kset_ne (by omega)).trans ((kset_ne (by omega)).trans ((kset_ne (by omega)).trans ((kset_ne (by omega)).trans ((kset_ne (by omega)).trans ((kset_ne (by omega)).trans ((kset_ne (by omega)).trans ((kset_ne (by omega)).trans ((kset_ne (by omega)).trans ((kset_ne (by omega)).trans ((kset_ne (by omega)).trans ((kset_ne (by omega)).trans ((kset_ne (by omega)).trans ((kset_ne (by omega)).trans ((kset_ne (by omega)).trans ((kset_ne (by omega)).trans rfl)))))))))))))))))))))))))))))))))⟩) (by omega) (by omega) dX7_init_134
