set_option maxHeartbeats 400000 in
set_option maxRecDepth 100000 in
theorem c_X7_lays {E_o : kE} {l_o : Launch} (hl0 : l_o.stackTraces = false) {w_o : kW} {bd : Nat → Nat} {nr : Nat} {g_o : Nat → Nat → Int} {T_o : Nat} {cs ams ltA acA mnA : Nat → Int} {rel fnd sz : Int} {rx : Nat → Int} {N_o : Nat → Nat} {tm : Int} {tr sh sg : Nat → Int} {sm dp th : Int} (hmd : kMd w_o bd nr g_o T_o cs ams ltA acA mnA rel fnd sz rx N_o tm tr sh sg sm dp th) (hrx : kLt rx) (hN_o : ∀ x_o, N_o x_o ≤ 1000) (hwf : kWf g_o nr) (hnr : nr ≤ 12) (hmn : ∀ r_o, r_o < nr → mnA r_o = m_np g_o r_o) (hc_o : 1 ≤ sz ∧ sz ≤ 10) : kM E_o l_o yX7_lays (.code yX7_lays cX7_lays 7 none :: kAL) { frames := 5, cells := 0, slots := 0, locals := 120 } 0 0 [.ref (bd 25)] w_o (pV (fun w2_o => ∃ N2 : Nat → Nat, kset w_o 37 (bd 17) (kNm N2) = w2_o ∧ (∀ x_o, N2 x_o ≤ 1000) ∧ kTr N2 g_o nr rx sz)) := by
  refine kM_of hl0 (by decide +kernel) (Nat.le_of_ble_eq_true rfl) ?_
  intro X_o hXl h_o hr hin
  subst hXl
  show kG E_o X_o 7 0 0 w_o 0 [(0, .ref (bd 25))] []
  refine k_iconst h_o dX7_lays_0 ?_
  refine k_istore_n (lv' := [(1, .int (iI 1)), (0, .ref (bd 25))]) h_o dX7_lays_1 rfl (by decide) rfl ?_
  have L2 : ∀ (mm : Nat) (x_o : Int) (N1 : Nat → Nat), (1 ≤ x_o ∧ x_o ≤ sz + 1) → (∀ x_o, N1 x_o ≤ 1000) → (∀ s_o i2 j2 : Int, m_isN s_o → 0 ≤ i2 → i2 ≤ j2 → j2 < sz → j2 - i2 + 1 < x_o → m_Cn N1 s_o i2 j2 = m_TT g_o nr rx s_o i2 j2) → (sz + 1 - x_o < (mm : Int)) → kG E_o X_o 7 0 0 (kset w_o 37 (bd 17) (kNm N1)) 2 [(0, .ref (bd 25)), (1, .int (iI x_o))] [] := by
    intro mm
    induction mm with
    | zero =>
      intro x_o N1 hx hN1 hT hm_o
      exfalso; omega
    | succ mm ih2 =>
      intro x_o N1 hx hN1 hT hm_o
      have hmd1 : (kMd ((kset w_o 37 (bd 17) (kNm N1))) bd nr g_o T_o cs ams ltA acA mnA rel fnd sz rx N1 tm tr sh sg sm dp th) := hmd.cn
      refine k_iload_n h_o 1 dX7_lays_2 rfl rfl ?_
      refine k_aload_n h_o 0 dX7_lays_3 rfl rfl ?_
      refine k_get h_o 19 kf_X7_93 hmd1.1 rfl dX7_lays_4 ?_
      refine k_icmp_gt h_o 142 (by omega) (by omega) dX7_lays_7 (by decide) (fun h7_o => ?_) (fun h7_o => ?_)
      · exact k_vret h_o hr (⟨rfl, N1, rfl, hN1, fun s_o i2 j2 q0 q1 q2 q3 => hT s_o i2 j2 q0 q1 q2 q3 (by omega)⟩) (by omega) (by omega) dX7_lays_142
      · refine k_iconst h_o dX7_lays_10 ?_
        refine k_istore_n (lv' := [(2, .int (iI 0)), (0, .ref (bd 25)), (1, .int (iI x_o))]) h_o dX7_lays_11 rfl (by decide) rfl ?_
        have L12 : ∀ (mm : Nat) (y_o : Int) (N3 : Nat → Nat), (0 ≤ y_o ∧ y_o ≤ sz - x_o + 1) → (∀ x_o, N3 x_o ≤ 1000) → (∀ s_o i2 j2 : Int, m_isN s_o → 0 ≤ i2 → i2 ≤ j2 → j2 < sz → (j2 - i2 + 1 < x_o ∨ (j2 - i2 + 1 = x_o ∧ i2 < y_o)) → m_Cn N3 s_o i2 j2 = m_TT g_o nr rx s_o i2 j2) → (sz + 1 - y_o < (mm : Int)) → kG E_o X_o 7 0 0 (kset w_o 37 (bd 17) (kNm N3)) 12 [(0, .ref (bd 25)), (1, .int (iI x_o)), (2, .int (iI y_o))] [] := by
          intro mm
          induction mm with
          | zero =>
            intro y_o N3 hy hN3 hT3 hm_o
            exfalso; omega
          | succ mm ih12 =>
            intro y_o N3 hy hN3 hT3 hm_o
            have hmd3 : (kMd ((kset w_o 37 (bd 17) (kNm N3))) bd nr g_o T_o cs ams ltA acA mnA rel fnd sz rx N3 tm tr sh sg sm dp th) := hmd.cn
            refine k_iload_n h_o 2 dX7_lays_12 rfl rfl ?_
            refine k_iload_n h_o 1 dX7_lays_13 rfl rfl ?_
            refine k_iadd h_o dX7_lays_14 ?_
            refine k_aload_n h_o 0 dX7_lays_15 rfl rfl ?_
            refine k_get h_o 19 kf_X7_93 hmd3.1 rfl dX7_lays_16 ?_
            refine k_icmp_gt h_o 136 (by omega) (by omega) dX7_lays_19 (by decide) (fun h19_o => ?_) (fun h19_o => ?_)
            · refine k_iinc (lv' := [(1, .int (iI (x_o + 1))), (0, .ref (bd 25)), (2, .int (iI y_o))]) h_o 1 dX7_lays_136 rfl (by decide) rfl ?_
              refine k_goto h_o 2 dX7_lays_139 (by decide) ?_
              refine k_sub (lv' := [(0, .ref (bd 25)), (1, .int (iI (x_o + 1)))]) [1, 0] rfl ?_
              exact ih2 (x_o + 1) N3 (by omega) hN3 (fun s_o i2 j2 q0 q1 q2 q3 q4 => hT3 s_o i2 j2 q0 q1 q2 q3 (by omega)) (by omega)
            · refine k_iload_n h_o 2 dX7_lays_22 rfl rfl ?_
              refine k_iload_n h_o 1 dX7_lays_23 rfl rfl ?_
              refine k_iadd h_o dX7_lays_24 ?_
              refine k_iconst h_o dX7_lays_25 ?_
              refine k_isub h_o dX7_lays_26 ?_
              refine k_istore_n (lv' := [(3, .int (iI ((y_o + x_o) - 1))), (0, .ref (bd 25)), (1, .int (iI x_o)), (2, .int (iI y_o))]) h_o dX7_lays_27 rfl (by decide) rfl ?_
              refine k_bipush h_o dX7_lays_28 (by decide) ?_
              refine k_istore (lv' := [(4, .int (iI 14)), (3, .int (iI ((y_o + x_o) - 1))), (0, .ref (bd 25)), (1, .int (iI x_o)), (2, .int (iI y_o))]) h_o dX7_lays_30 (by decide) rfl ?_
              have L32 : ∀ (mm : Nat) (nm : Int) (N5 : Nat → Nat), (9 ≤ nm ∧ nm ≤ 14) → (∀ x_o, N5 x_o ≤ 1000) → (∀ s_o : Int, nm < s_o → s_o < 15 → m_Cn N5 s_o y_o (y_o + x_o - 1) = m_TT g_o nr rx s_o y_o (y_o + x_o - 1)) → (∀ s_o i2 j2 : Int, m_isN s_o → 0 ≤ i2 → i2 ≤ j2 → j2 < 10 → (i2 ≠ y_o ∨ j2 ≠ y_o + x_o - 1) → m_Cn N5 s_o i2 j2 = m_Cn N3 s_o i2 j2) → (nm - 9 < (mm : Int)) → kG E_o X_o 7 0 0 (kset w_o 37 (bd 17) (kNm N5)) 32 [(0, .ref (bd 25)), (1, .int (iI x_o)), (2, .int (iI y_o)), (3, .int (iI ((y_o + x_o) - 1))), (4, .int (iI nm))] [] := by
                intro mm
                induction mm with
                | zero =>
                  intro nm N5 hnm hN5 hd hot hm_o
                  exfalso; omega
                | succ mm ih32 =>
                  intro nm N5 hnm hN5 hd hot hm_o
                  have hmd5 : (kMd ((kset w_o 37 (bd 17) (kNm N5))) bd nr g_o T_o cs ams ltA acA mnA rel fnd sz rx N5 tm tr sh sg sm dp th) := hmd.cn
                  refine k_iload h_o 4 dX7_lays_32 rfl ?_
                  refine k_bipush h_o dX7_lays_34 (by decide) ?_
                  refine k_icmp_lt h_o 130 (by omega) (by decide) dX7_lays_36 (by decide) (fun h36_o => ?_) (fun h36_o => ?_)
                  · refine k_iinc (lv' := [(2, .int (iI (y_o + 1))), (0, .ref (bd 25)), (1, .int (iI x_o)), (3, .int (iI ((y_o + x_o) - 1))), (4, .int (iI nm))]) h_o 2 dX7_lays_130 rfl (by decide) rfl ?_
                    refine k_goto h_o 12 dX7_lays_133 (by decide) ?_
                    refine k_sub (lv' := [(0, .ref (bd 25)), (1, .int (iI x_o)), (2, .int (iI (y_o + 1)))]) [1, 2, 0] rfl ?_
                    exact ih12 (y_o + 1) N5 (by omega) hN5 (fun s_o i2 j2 q0 q1 q2 q3 q4 => if e_o : i2 = y_o ∧ j2 = y_o + x_o - 1 then (by rw [e_o.1, e_o.2]; exact hd s_o (by omega) (by omega)) else (hot s_o i2 j2 q0 q1 q2 (by omega) (by omega)).trans (hT3 s_o i2 j2 q0 q1 q2 q3 (by omega))) (by omega)
                  · refine k_iconst h_o dX7_lays_39 ?_
                    refine k_istore (lv' := [(5, .int (iI 0)), (0, .ref (bd 25)), (1, .int (iI x_o)), (2, .int (iI y_o)), (3, .int (iI ((y_o + x_o) - 1))), (4, .int (iI nm))]) h_o dX7_lays_40 (by decide) rfl ?_
                    refine k_iconst h_o dX7_lays_42 ?_
                    refine k_istore (lv' := [(6, .int (iI 0)), (5, .int (iI 0)), (0, .ref (bd 25)), (1, .int (iI x_o)), (2, .int (iI y_o)), (3, .int (iI ((y_o + x_o) - 1))), (4, .int (iI nm))]) h_o dX7_lays_43 (by decide) rfl ?_
                    have L45 : ∀ (mm : Nat) (r_o : Int) (s_o : Nat), (0 ≤ r_o ∧ r_o ≤ ((nr : Nat) : Int)) → (s_o ≤ 1000) → (s_o = m_cap (m_sn (m_rs (m_Cn N5) rx g_o nm y_o (y_o + x_o - 1)) r_o.toNat)) → ((nr : Nat) : Int) - r_o < (mm : Int) → kG E_o X_o 7 0 0 (kset w_o 37 (bd 17) (kNm N5)) 45 [(0, .ref (bd 25)), (1, .int (iI x_o)), (2, .int (iI y_o)), (3, .int (iI ((y_o + x_o) - 1))), (4, .int (iI nm)), (5, .int (iI ((s_o : Nat) : Int))), (6, .int (iI r_o))] [] := by
                      intro mm
                      induction mm with
                      | zero =>
                        intro r_o s_o hr2 hs1 hs2 hm_o
                        exfalso; omega
                      | succ mm ih45 =>
                        intro r_o s_o hr2 hs1 hs2 hm_o
                        refine k_iload h_o 6 dX7_lays_45 rfl ?_
                        refine k_aload_n h_o 0 dX7_lays_47 rfl rfl ?_
                        refine k_get h_o 19 kf_X7_96 hmd5.1 rfl dX7_lays_48 ?_
                        refine k_icmp_ge h_o 102 (by omega) (by omega) dX7_lays_51 (by decide) (fun h51_o => ?_) (fun h51_o => ?_)
                        · have htrue : s_o = m_TT g_o nr rx nm y_o (y_o + x_o - 1) := by
                            rw [hs2, show r_o.toNat = nr by omega]
                            exact m_row_true (fun x_o hx => (hwf x_o hx).1) (by omega) (by omega) (by omega) (fun z_o i2 j2 q0 q1 q2 q3 q4 => (hot z_o i2 j2 q0 (by omega) q2 (by omega) (by omega)).trans (hT3 z_o i2 j2 q0 (by omega) q2 (by omega) (by omega))) hd
                          refine k_aload_n h_o 0 dX7_lays_102 rfl rfl ?_
                          refine k_get h_o 19 kf_X7_47 hmd5.1 rfl dX7_lays_103 ?_
                          refine k_bipush h_o dX7_lays_106 (by decide) ?_
                          refine k_iload h_o 4 dX7_lays_108 rfl ?_
                          refine k_bipush h_o dX7_lays_110 (by decide) ?_
                          refine k_isub h_o dX7_lays_112 ?_
                          refine k_imul h_o dX7_lays_113 ?_
                          refine k_bipush h_o dX7_lays_114 (by decide) ?_
                          refine k_iload_n h_o 2 dX7_lays_116 rfl rfl ?_
                          refine k_imul h_o dX7_lays_117 ?_
                          refine k_iadd h_o dX7_lays_118 ?_
                          refine k_iload_n h_o 3 dX7_lays_119 rfl rfl ?_
                          refine k_iadd h_o dX7_lays_120 ?_
                          refine k_iload h_o 5 dX7_lays_121 rfl ?_
                          refine k_iast h_o 37 hmd5.2.2.2.2.2.2.2.2.2.2.2.2.2.1 (by omega) (by decide) dX7_lays_123 ?_
                          refine k_world (w' := (kset w_o 37 (bd 17) (kNm (kup N5 (((nm - 10) * 10 + y_o) * 10 + (y_o + x_o - 1)).toNat s_o)))) (by rw [kset_kset, show 100 * (nm - 10) + 10 * y_o + (y_o + x_o - 1) = ((nm - 10) * 10 + y_o) * 10 + (y_o + x_o - 1) by omega, kup_cast]) ?_
                          refine k_iinc (lv' := [(4, .int (iI (nm + (-1)))), (0, .ref (bd 25)), (1, .int (iI x_o)), (2, .int (iI y_o)), (3, .int (iI ((y_o + x_o) - 1))), (5, .int (iI ((s_o : Nat) : Int))), (6, .int (iI r_o))]) h_o 4 dX7_lays_124 rfl (by decide) rfl ?_
                          refine k_goto h_o 32 dX7_lays_127 (by decide) ?_
                          refine k_sub (lv' := [(0, .ref (bd 25)), (1, .int (iI x_o)), (2, .int (iI y_o)), (3, .int (iI ((y_o + x_o) - 1))), (4, .int (iI (nm + (-1))))]) [1, 2, 3, 4, 0] rfl ?_
                          exact ih32 (nm - 1) (kup N5 (((nm - 10) * 10 + y_o) * 10 + (y_o + x_o - 1)).toNat s_o) (by omega) (kup_le hN5 hs1) (fun z_o q1 q2 => if e_o : z_o = nm then (by rw [e_o]; exact m_Cn_eq.trans htrue) else (m_Cn_ne (by omega) (by omega) (by omega) (by omega) (by omega) (by omega) (Or.inl e_o)).trans (hd z_o (by omega) q2)) (fun z_o i2 j2 q0 q1 q2 q3 q4 => (m_Cn_ne (by omega) (by omega) (by omega) (by omega) (by omega) (by omega) (by omega)).trans (hot z_o i2 j2 q0 q1 q2 q3 q4)) (by omega)
                        · obtain ⟨hrw, hq5, hq6, hq7, hq8⟩ := hwf r_o.toNat (by omega)
                          have hmr := hmn r_o.toNat (by omega)
                          have hrg1 := hrw.1
                          refine k_iload h_o 5 dX7_lays_54 rfl ?_
                          refine k_aload_n h_o 0 dX7_lays_56 rfl rfl ?_
                          refine k_get h_o 19 kf_X7_28 hmd5.1 rfl dX7_lays_57 ?_
                          refine k_iload h_o 6 dX7_lays_60 rfl ?_
                          refine k_zald h_o 26 hmd5.2.2.2.2.2.2.2.1 (by omega) (by decide) dX7_lays_62 ?_
                          refine k_ifne h_o 89 (by omega) dX7_lays_63 (by decide) (fun h63_o => ?_) (fun h63_o => ?_)
                          · refine k_iconst h_o dX7_lays_89 ?_
                            refine k_iadd h_o dX7_lays_90 ?_
                            refine k_callS (As := [.int (iI (((s_o : Nat) : Int) + 0))]) (rest := []) h_o mX7_held kq_5_44 (c_X7_held hl0 (by omega)) rfl rfl (Nat.le_of_ble_eq_true rfl) ⟨rfl, rfl, ⟨(Nat.le_of_ble_eq_true rfl), (Nat.le_of_ble_eq_true rfl)⟩, ⟨(Nat.le_of_ble_eq_true rfl), (Nat.le_of_ble_eq_true rfl)⟩⟩ dX7_lays_91 (kcI fun z91_o w91_o hp => ?_)
                            obtain ⟨rfl, rfl⟩ := hp
                            refine k_top (z' := ((s_o : Nat) : Int)) (by rw [Int.add_zero, m_lim_cap, m_cap_id hs1]) ?_
                            refine k_istore (lv' := [(5, .int (iI ((s_o : Nat) : Int))), (0, .ref (bd 25)), (1, .int (iI x_o)), (2, .int (iI y_o)), (3, .int (iI ((y_o + x_o) - 1))), (4, .int (iI nm)), (6, .int (iI r_o))]) h_o dX7_lays_94 (by decide) rfl ?_
                            refine k_iinc (lv' := [(6, .int (iI (r_o + 1))), (5, .int (iI ((s_o : Nat) : Int))), (0, .ref (bd 25)), (1, .int (iI x_o)), (2, .int (iI y_o)), (3, .int (iI ((y_o + x_o) - 1))), (4, .int (iI nm))]) h_o 6 dX7_lays_96 rfl (by decide) rfl ?_
                            refine k_goto h_o 45 dX7_lays_99 (by decide) ?_
                            refine k_sub (lv' := [(0, .ref (bd 25)), (1, .int (iI x_o)), (2, .int (iI y_o)), (3, .int (iI ((y_o + x_o) - 1))), (4, .int (iI nm)), (5, .int (iI ((s_o : Nat) : Int))), (6, .int (iI (r_o + 1)))]) [2, 3, 4, 5, 6, 1, 0] rfl ?_
                            exact ih45 (r_o + 1) s_o (by omega) (by first | exact hs1 | exact m_cap_le _) (m_rs_stay hr2.1 hs2 (m_rs_dead (by omega))) (by omega)
                          · refine k_aload_n h_o 0 dX7_lays_66 rfl rfl ?_
                            refine k_get h_o 19 kf_X7_7 hmd5.1 rfl dX7_lays_67 ?_
                            refine k_iload h_o 6 dX7_lays_70 rfl ?_
                            refine k_iald h_o 20 hmd5.2.1 (by omega) (by decide) dX7_lays_72 ?_
                            refine k_iload h_o 4 dX7_lays_73 rfl ?_
                            refine k_icmp_ne h_o 89 (by omega) (by omega) dX7_lays_75 (by decide) (fun h75_o => ?_) (fun h75_o => ?_)
                            · refine k_iconst h_o dX7_lays_89 ?_
                              refine k_iadd h_o dX7_lays_90 ?_
                              refine k_callS (As := [.int (iI (((s_o : Nat) : Int) + 0))]) (rest := []) h_o mX7_held kq_5_44 (c_X7_held hl0 (by omega)) rfl rfl (Nat.le_of_ble_eq_true rfl) ⟨rfl, rfl, ⟨(Nat.le_of_ble_eq_true rfl), (Nat.le_of_ble_eq_true rfl)⟩, ⟨(Nat.le_of_ble_eq_true rfl), (Nat.le_of_ble_eq_true rfl)⟩⟩ dX7_lays_91 (kcI fun z91_o w91_o hp => ?_)
                              obtain ⟨rfl, rfl⟩ := hp
                              refine k_top (z' := ((s_o : Nat) : Int)) (by rw [Int.add_zero, m_lim_cap, m_cap_id hs1]) ?_
                              refine k_istore (lv' := [(5, .int (iI ((s_o : Nat) : Int))), (0, .ref (bd 25)), (1, .int (iI x_o)), (2, .int (iI y_o)), (3, .int (iI ((y_o + x_o) - 1))), (4, .int (iI nm)), (6, .int (iI r_o))]) h_o dX7_lays_94 (by decide) rfl ?_
                              refine k_iinc (lv' := [(6, .int (iI (r_o + 1))), (5, .int (iI ((s_o : Nat) : Int))), (0, .ref (bd 25)), (1, .int (iI x_o)), (2, .int (iI y_o)), (3, .int (iI ((y_o + x_o) - 1))), (4, .int (iI nm))]) h_o 6 dX7_lays_96 rfl (by decide) rfl ?_
                              refine k_goto h_o 45 dX7_lays_99 (by decide) ?_
                              refine k_sub (lv' := [(0, .ref (bd 25)), (1, .int (iI x_o)), (2, .int (iI y_o)), (3, .int (iI ((y_o + x_o) - 1))), (4, .int (iI nm)), (5, .int (iI ((s_o : Nat) : Int))), (6, .int (iI (r_o + 1)))]) [2, 3, 4, 5, 6, 1, 0] rfl ?_
                              exact ih45 (r_o + 1) s_o (by omega) (by first | exact hs1 | exact m_cap_le _) (m_rs_stay hr2.1 hs2 (m_rs_dead (by omega))) (by omega)
                            · refine k_aload_n h_o 0 dX7_lays_78 rfl rfl ?_
                              refine k_iload h_o 6 dX7_lays_79 rfl ?_
                              refine k_iload_n h_o 2 dX7_lays_81 rfl rfl ?_
                              refine k_iload_n h_o 3 dX7_lays_82 rfl rfl ?_
                              refine k_callV (As := [.int (iI r_o), .int (iI y_o), .int (iI ((y_o + x_o) - 1))]) (rest := [.int (iI ((s_o : Nat) : Int))]) h_o mX7_ways kq_5_32 (c_X7_ways hl0 hmd5 hrx hN5 (by omega) hrw hmr (by omega) (by omega)) 19 hmd5.1 rfl rfl rfl (Nat.le_of_ble_eq_true rfl) ⟨rfl, rfl, ⟨(Nat.le_of_ble_eq_true rfl), (Nat.le_of_ble_eq_true rfl)⟩, ⟨(Nat.le_of_ble_eq_true rfl), (Nat.le_of_ble_eq_true rfl)⟩⟩ dX7_lays_83 (kcI fun z83_o w83_o hp => ?_)
                              obtain ⟨rfl, rfl⟩ := hp
                              refine k_goto h_o 90 dX7_lays_86 (by decide) ?_
                              refine k_iadd h_o dX7_lays_90 ?_
                              refine k_callS (As := [.int (iI (((s_o : Nat) : Int) + ((m_cap (m_wy (m_Cn N5) rx (g_o 2 r_o.toNat) (g_o 3 r_o.toNat) (g_o 4 r_o.toNat) y_o ((y_o + x_o) - 1)) : Nat) : Int)))]) (rest := []) h_o mX7_held kq_5_44 (c_X7_held hl0 (m_add_rg hs1 (m_cap_le _))) rfl rfl (Nat.le_of_ble_eq_true rfl) ⟨rfl, rfl, ⟨(Nat.le_of_ble_eq_true rfl), (Nat.le_of_ble_eq_true rfl)⟩, ⟨(Nat.le_of_ble_eq_true rfl), (Nat.le_of_ble_eq_true rfl)⟩⟩ dX7_lays_91 (kcI fun z91_o w91_o hp => ?_)
                              obtain ⟨rfl, rfl⟩ := hp
                              refine k_top (z' := ((m_cap (s_o + m_wy (m_Cn N5) rx (g_o 2 r_o.toNat) (g_o 3 r_o.toNat) (g_o 4 r_o.toNat) y_o (y_o + x_o - 1)) : Nat) : Int)) (by rw [← Int.natCast_add, m_lim_cap, m_cap_addr]) ?_
                              refine k_istore (lv' := [(5, .int (iI ((m_cap (s_o + m_wy (m_Cn N5) rx (g_o 2 r_o.toNat) (g_o 3 r_o.toNat) (g_o 4 r_o.toNat) y_o (y_o + x_o - 1)) : Nat) : Int))), (0, .ref (bd 25)), (1, .int (iI x_o)), (2, .int (iI y_o)), (3, .int (iI ((y_o + x_o) - 1))), (4, .int (iI nm)), (6, .int (iI r_o))]) h_o dX7_lays_94 (by decide) rfl ?_
                              refine k_iinc (lv' := [(6, .int (iI (r_o + 1))), (5, .int (iI ((m_cap (s_o + m_wy (m_Cn N5) rx (g_o 2 r_o.toNat) (g_o 3 r_o.toNat) (g_o 4 r_o.toNat) y_o (y_o + x_o - 1)) : Nat) : Int))), (0, .ref (bd 25)), (1, .int (iI x_o)), (2, .int (iI y_o)), (3, .int (iI ((y_o + x_o) - 1))), (4, .int (iI nm))]) h_o 6 dX7_lays_96 rfl (by decide) rfl ?_
                              refine k_goto h_o 45 dX7_lays_99 (by decide) ?_
                              refine k_sub (lv' := [(0, .ref (bd 25)), (1, .int (iI x_o)), (2, .int (iI y_o)), (3, .int (iI ((y_o + x_o) - 1))), (4, .int (iI nm)), (5, .int (iI ((m_cap (s_o + m_wy (m_Cn N5) rx (g_o 2 r_o.toNat) (g_o 3 r_o.toNat) (g_o 4 r_o.toNat) y_o (y_o + x_o - 1)) : Nat) : Int))), (6, .int (iI (r_o + 1)))]) [2, 3, 4, 5, 6, 1, 0] rfl ?_
                              exact ih45 (r_o + 1) (m_cap (s_o + m_wy (m_Cn N5) rx (g_o 2 r_o.toNat) (g_o 3 r_o.toNat) (g_o 4 r_o.toNat) y_o (y_o + x_o - 1))) (by omega) (by first | exact hs1 | exact m_cap_le _) (m_rs_step hr2.1 hs2 (m_rs_live ⟨h63_o, h75_o⟩).symm) (by omega)
                    refine k_sub (lv' := [(0, .ref (bd 25)), (1, .int (iI x_o)), (2, .int (iI y_o)), (3, .int (iI ((y_o + x_o) - 1))), (4, .int (iI nm)), (5, .int (iI 0)), (6, .int (iI 0))]) [2, 3, 4, 5, 6, 1, 0] rfl ?_
                    exact L45 ((((nr : Nat) : Int) - 0 : Int).toNat + 1) 0 0 (by omega) (by omega) (by rfl) (by omega)
              refine k_sub (lv' := [(0, .ref (bd 25)), (1, .int (iI x_o)), (2, .int (iI y_o)), (3, .int (iI ((y_o + x_o) - 1))), (4, .int (iI 14))]) [2, 3, 4, 1, 0] rfl ?_
              exact L32 ((14 - 9 : Int).toNat + 1) 14 N3 (by omega) hN3 (fun s_o q1 q2 => by omega) (fun s_o i2 j2 _ _ _ _ _ => rfl) (by omega)
        refine k_sub (lv' := [(0, .ref (bd 25)), (1, .int (iI x_o)), (2, .int (iI 0))]) [1, 2, 0] rfl ?_
        exact L12 ((sz + 1 - 0 : Int).toNat + 1) 0 N1 (by omega) hN1 (fun s_o i2 j2 q0 q1 q2 q3 q4 => hT s_o i2 j2 q0 q1 q2 q3 (by omega)) (by omega)
  refine k_world (w' := (kset w_o 37 (bd 17) (kNm N_o))) (kset_id hmd.2.2.2.2.2.2.2.2.2.2.2.2.2.1).symm ?_
  refine k_sub (lv' := [(0, .ref (bd 25)), (1, .int (iI 1))]) [1, 0] rfl ?_
  exact L2 ((sz + 1 - 1 : Int).toNat + 1) 1 N_o (by omega) hN_o (fun s_o i2 j2 _ _ _ _ _ => by omega) (by omega)

set_option maxHeartbeats 400000 in
set_option maxRecDepth 100000 in
theorem c_X7_laysText {E_o : kE} {l_o : Launch} (hl0 : l_o.stackTraces = false) {w_o : kW} {bd : Nat → Nat} {nr : Nat} {g_o : Nat → Nat → Int} {T_o : Nat} {cs ams ltA acA mnA : Nat → Int} {rel fnd sz : Int} {rx : Nat → Int} {N_o : Nat → Nat} {tm : Int} {tr sh sg : Nat → Int} {sm dp th : Int} {lts acs : Nat → Nat → Int} {x_o : Int} (hmd : kMd w_o bd nr g_o T_o cs ams ltA acA mnA rel fnd sz rx N_o tm tr sh sg sm dp th) (hI : kMi nr g_o T_o lts cs acs ams ltA acA mnA) (hrx : kLt rx) (hN_o : ∀ x_o, N_o x_o ≤ 1000) (hx : 0 ≤ x_o ∧ x_o < ((T_o : Nat) : Int)) : kM E_o l_o yX7_laysText (.code yX7_laysText cX7_laysText 3 (some .int) :: kAL) { frames := 6, cells := 0, slots := 0, locals := 146 } 0 0 [.ref (bd 25), .int (iI x_o)] w_o (pI (fun z_o w2_o => ((m_TT g_o nr (lts x_o.toNat) 10 0 (cs x_o.toNat - 1) : Nat) : Int) = z_o ∧ ∃ (rx2 : Nat → Int) (N2 : Nat → Nat), (kMd w2_o bd nr g_o T_o cs ams ltA acA mnA rel fnd ((cs x_o.toNat)) rx2 N2 tm tr sh sg sm dp th) ∧ kLt rx2 ∧ (∀ p_o : Nat, (p_o : Int) < cs x_o.toNat → rx2 p_o = lts x_o.toNat p_o) ∧ (∀ z_o, N2 z_o ≤ 1000) ∧ kTr N2 g_o nr rx2 (cs x_o.toNat) ∧ kEx w_o w2_o kMk)) := by
  refine kM_of hl0 (by decide +kernel) (Nat.le_of_ble_eq_true rfl) ?_
  intro X_o hXl h_o hr hin
  subst hXl
  obtain ⟨hwf, hnr, hT6, hmn, hg0, htx⟩ := id hI
  obtain ⟨hlx, hcx, hax, hacx, hltx, hacAx⟩ := htx x_o.toNat (by omega)
  show kG E_o X_o 3 0 0 w_o 0 [(0, .ref (bd 25)), (1, .int (iI x_o))] []
  refine k_aload_n h_o 0 dX7_laysText_0 rfl rfl ?_
  refine k_aload_n h_o 0 dX7_laysText_1 rfl rfl ?_
  refine k_get h_o 19 kf_X7_35 hmd.1 rfl dX7_laysText_2 ?_
  refine k_iload_n h_o 1 dX7_laysText_5 rfl rfl ?_
  refine k_iald h_o 29 hmd.2.2.2.2.2.2.2.2.2.1 (by omega) (by decide) dX7_laysText_6 ?_
  refine k_put (fs' := [.ref (bd 0), .ref (bd 1), .ref (bd 2), .ref (bd 3), .ref (bd 4), .ref (bd 5), .ref (bd 6), .int (iI ((nr : Nat) : Int)), .ref (bd 8), .ref (bd 9), .ref (bd 10), .ref (bd 11), .int (iI ((T_o : Nat) : Int)), .long (lI fnd), .int (iI rel), .ref (bd 15), .int (iI (cs ((x_o).toNat))), .ref (bd 17), .ref (bd 18), .int (iI tm), .ref (bd 20), .ref (bd 21), .int (iI sm), .int (iI dp), .int (iI th)]) h_o 19 kf_X7_93 kt_X7_16 hmd.1 rfl rfl (Nat.le_of_ble_eq_true rfl) rfl dX7_laysText_7 ?_
  refine k_iconst h_o dX7_laysText_10 ?_
  refine k_istore_n (lv' := [(2, .int (iI 0)), (0, .ref (bd 25)), (1, .int (iI x_o))]) h_o dX7_laysText_11 rfl (by decide) rfl ?_
  have L12 : ∀ (mm : Nat) (p_o : Int), (0 ≤ p_o ∧ p_o ≤ cs x_o.toNat) → (cs x_o.toNat - p_o < (mm : Int)) → kG E_o X_o 3 0 0 (kset (kset w_o 19 (bd 25) (ob 9 [.ref (bd 0), .ref (bd 1), .ref (bd 2), .ref (bd 3), .ref (bd 4), .ref (bd 5), .ref (bd 6), .int (iI ((nr : Nat) : Int)), .ref (bd 8), .ref (bd 9), .ref (bd 10), .ref (bd 11), .int (iI ((T_o : Nat) : Int)), .long (lI fnd), .int (iI rel), .ref (bd 15), .int (iI (cs x_o.toNat)), .ref (bd 17), .ref (bd 18), .int (iI tm), .ref (bd 20), .ref (bd 21), .int (iI sm), .int (iI dp), .int (iI th)])) 35 (bd 15) (ai 10 (m_cpl rx (lts x_o.toNat) p_o))) 12 [(0, .ref (bd 25)), (1, .int (iI x_o)), (2, .int (iI p_o))] [] := by
    intro mm
    induction mm with
    | zero =>
      intro p_o hp hm_o
      exfalso; omega
    | succ mm ih12 =>
      intro p_o hp hm_o
      refine k_iload_n h_o 2 dX7_laysText_12 rfl rfl ?_
      refine k_aload_n h_o 0 dX7_laysText_13 rfl rfl ?_
      refine k_get h_o 19 kf_X7_93 ((kset_ne (by decide)).trans kset_eq) rfl dX7_laysText_14 ?_
      refine k_icmp_ge h_o 43 (by omega) (by omega) dX7_laysText_17 (by decide) (fun h17_o => ?_) (fun h17_o => ?_)
      · have hmdB : (kMd ((kset (kset w_o 19 (bd 25) (ob 9 [.ref (bd 0), .ref (bd 1), .ref (bd 2), .ref (bd 3), .ref (bd 4), .ref (bd 5), .ref (bd 6), .int (iI ((nr : Nat) : Int)), .ref (bd 8), .ref (bd 9), .ref (bd 10), .ref (bd 11), .int (iI ((T_o : Nat) : Int)), .long (lI fnd), .int (iI rel), .ref (bd 15), .int (iI (cs x_o.toNat)), .ref (bd 17), .ref (bd 18), .int (iI tm), .ref (bd 20), .ref (bd 21), .int (iI sm), .int (iI dp), .int (iI th)])) 35 (bd 15) (ai 10 (m_cpl rx (lts x_o.toNat) p_o)))) bd nr g_o T_o cs ams ltA acA mnA rel fnd (cs x_o.toNat) (m_cpl rx (lts x_o.toNat) p_o) N_o tm tr sh sg sm dp th) := ⟨((kset_ne (by decide)).trans kset_eq), ((kset_ne (by decide)).trans ((kset_ne (by decide)).trans hmd.2.1)), ((kset_ne (by decide)).trans ((kset_ne (by decide)).trans hmd.2.2.1)), ((kset_ne (by decide)).trans ((kset_ne (by decide)).trans hmd.2.2.2.1)), ((kset_ne (by decide)).trans ((kset_ne (by decide)).trans hmd.2.2.2.2.1)), ((kset_ne (by decide)).trans ((kset_ne (by decide)).trans hmd.2.2.2.2.2.1)), ((kset_ne (by decide)).trans ((kset_ne (by decide)).trans hmd.2.2.2.2.2.2.1)), ((kset_ne (by decide)).trans ((kset_ne (by decide)).trans hmd.2.2.2.2.2.2.2.1)), ((kset_ne (by decide)).trans ((kset_ne (by decide)).trans hmd.2.2.2.2.2.2.2.2.1)), ((kset_ne (by decide)).trans ((kset_ne (by decide)).trans hmd.2.2.2.2.2.2.2.2.2.1)), ((kset_ne (by decide)).trans ((kset_ne (by decide)).trans hmd.2.2.2.2.2.2.2.2.2.2.1)), ((kset_ne (by decide)).trans ((kset_ne (by decide)).trans hmd.2.2.2.2.2.2.2.2.2.2.2.1)), kset_eq, ((kset_ne (by decide)).trans ((kset_ne (by decide)).trans hmd.2.2.2.2.2.2.2.2.2.2.2.2.2.1)), ((kset_ne (by decide)).trans ((kset_ne (by decide)).trans hmd.2.2.2.2.2.2.2.2.2.2.2.2.2.2.1)), ((kset_ne (by decide)).trans ((kset_ne (by decide)).trans hmd.2.2.2.2.2.2.2.2.2.2.2.2.2.2.2.1)), ((kset_ne (by decide)).trans ((kset_ne (by decide)).trans hmd.2.2.2.2.2.2.2.2.2.2.2.2.2.2.2.2))⟩
        refine k_aload_n h_o 0 dX7_laysText_43 rfl rfl ?_
        refine k_callV (As := []) (rest := []) h_o mX7_lays kq_5_28 (c_X7_lays hl0 hmdB (kLt_cpl hrx hlx) hN_o hwf hnr hmn hcx) 19 hmdB.1 rfl rfl rfl (Nat.le_of_ble_eq_true rfl) ⟨rfl, rfl, ⟨(Nat.le_of_ble_eq_true rfl), (Nat.le_of_ble_eq_true rfl)⟩, ⟨(Nat.le_of_ble_eq_true rfl), (Nat.le_of_ble_eq_true rfl)⟩⟩ dX7_laysText_44 (kcV fun w44_o hp => ?_)
        obtain ⟨N2, rfl, hN2, hTr2⟩ := hp
        have hmdC : (kMd ((kset (kset (kset w_o 19 (bd 25) (ob 9 [.ref (bd 0), .ref (bd 1), .ref (bd 2), .ref (bd 3), .ref (bd 4), .ref (bd 5), .ref (bd 6), .int (iI ((nr : Nat) : Int)), .ref (bd 8), .ref (bd 9), .ref (bd 10), .ref (bd 11), .int (iI ((T_o : Nat) : Int)), .long (lI fnd), .int (iI rel), .ref (bd 15), .int (iI (cs x_o.toNat)), .ref (bd 17), .ref (bd 18), .int (iI tm), .ref (bd 20), .ref (bd 21), .int (iI sm), .int (iI dp), .int (iI th)])) 35 (bd 15) (ai 10 (m_cpl rx (lts x_o.toNat) p_o))) 37 (bd 17) (ai 500 (fun x_o => ((N2 x_o : Nat) : Int))))) bd nr g_o T_o cs ams ltA acA mnA rel fnd (cs x_o.toNat) (m_cpl rx (lts x_o.toNat) p_o) N2 tm tr sh sg sm dp th) := ⟨((kset_ne (by decide)).trans hmdB.1), ((kset_ne (by decide)).trans hmdB.2.1), ((kset_ne (by decide)).trans hmdB.2.2.1), ((kset_ne (by decide)).trans hmdB.2.2.2.1), ((kset_ne (by decide)).trans hmdB.2.2.2.2.1), ((kset_ne (by decide)).trans hmdB.2.2.2.2.2.1), ((kset_ne (by decide)).trans hmdB.2.2.2.2.2.2.1), ((kset_ne (by decide)).trans hmdB.2.2.2.2.2.2.2.1), ((kset_ne (by decide)).trans hmdB.2.2.2.2.2.2.2.2.1), ((kset_ne (by decide)).trans hmdB.2.2.2.2.2.2.2.2.2.1), ((kset_ne (by decide)).trans hmdB.2.2.2.2.2.2.2.2.2.2.1), ((kset_ne (by decide)).trans hmdB.2.2.2.2.2.2.2.2.2.2.2.1), ((kset_ne (by decide)).trans hmdB.2.2.2.2.2.2.2.2.2.2.2.2.1), kset_eq, ((kset_ne (by decide)).trans hmdB.2.2.2.2.2.2.2.2.2.2.2.2.2.2.1), ((kset_ne (by decide)).trans hmdB.2.2.2.2.2.2.2.2.2.2.2.2.2.2.2.1), ((kset_ne (by decide)).trans hmdB.2.2.2.2.2.2.2.2.2.2.2.2.2.2.2.2)⟩
        refine k_aload_n h_o 0 dX7_laysText_47 rfl rfl ?_
        refine k_bipush h_o dX7_laysText_48 (by decide) ?_
        refine k_iconst h_o dX7_laysText_50 ?_
        refine k_aload_n h_o 0 dX7_laysText_51 rfl rfl ?_
        refine k_get h_o 19 kf_X7_93 hmdC.1 rfl dX7_laysText_52 ?_
        refine k_iconst h_o dX7_laysText_55 ?_
        refine k_isub h_o dX7_laysText_56 ?_
        refine k_callV (As := [.int (iI 10), .int (iI 0), .int (iI ((cs x_o.toNat) - 1))]) (rest := []) h_o mX7_part kq_5_36 (c_X7_part hl0 hmdC (kLt_cpl hrx hlx) (by omega) (by omega) (by omega)) 19 hmdC.1 rfl rfl rfl (Nat.le_of_ble_eq_true rfl) ⟨rfl, rfl, ⟨(Nat.le_of_ble_eq_true rfl), (Nat.le_of_ble_eq_true rfl)⟩, ⟨(Nat.le_of_ble_eq_true rfl), (Nat.le_of_ble_eq_true rfl)⟩⟩ dX7_laysText_57 (kcI fun z57_o w57_o hp => ?_)
        obtain ⟨rfl, rfl⟩ := hp
        exact k_iret h_o hr rfl (⟨_, rfl, (by rw [m_part_N (by decide), hTr2 10 0 _ (by decide) (by omega) (by omega) (by omega)]; exact congrArg (fun n_o : Nat => (n_o : Int)) (m_TT_row (by omega) (fun q_o q1 q2 => (if_pos (by omega)).symm))), m_cpl rx (lts x_o.toNat) p_o, N2, hmdC, kLt_cpl hrx hlx, (fun q_o hq => if_pos (by omega)), hN2, hTr2, (fun x_o hx => ((kset_ne (by omega)).trans ((kset_ne (by omega)).trans ((kset_ne (by omega)).trans rfl))))⟩) (by omega) (by omega) dX7_laysText_60
      · refine k_aload_n h_o 0 dX7_laysText_20 rfl rfl ?_
        refine k_get h_o 19 kf_X7_44 ((kset_ne (by decide)).trans kset_eq) rfl dX7_laysText_21 ?_
        refine k_iload_n h_o 2 dX7_laysText_24 rfl rfl ?_
        refine k_aload_n h_o 0 dX7_laysText_25 rfl rfl ?_
        refine k_get h_o 19 kf_X7_32 ((kset_ne (by decide)).trans kset_eq) rfl dX7_laysText_26 ?_
        refine k_bipush h_o dX7_laysText_29 (by decide) ?_
        refine k_iload_n h_o 1 dX7_laysText_31 rfl rfl ?_
        refine k_imul h_o dX7_laysText_32 ?_
        refine k_iload_n h_o 2 dX7_laysText_33 rfl rfl ?_
        refine k_iadd h_o dX7_laysText_34 ?_
        refine k_iald h_o 28 ((kset_ne (by decide)).trans ((kset_ne (by decide)).trans hmd.2.2.2.2.2.2.2.2.1)) (by omega) (by decide) dX7_laysText_35 ?_
        refine k_top (z' := lts x_o.toNat p_o.toNat) (by rw [show (10 * x_o + p_o).toNat = 10 * x_o.toNat + p_o.toNat by omega]; exact hltx p_o.toNat (by omega)) ?_
        refine k_iast h_o 35 kset_eq (by omega) (by decide) dX7_laysText_36 ?_
        refine k_iinc (lv' := [(2, .int (iI (p_o + 1))), (0, .ref (bd 25)), (1, .int (iI x_o))]) h_o 2 dX7_laysText_37 rfl (by decide) rfl ?_
        refine k_goto h_o 12 dX7_laysText_40 (by decide) ?_
        refine k_world (w' := (kset (kset w_o 19 (bd 25) (ob 9 [.ref (bd 0), .ref (bd 1), .ref (bd 2), .ref (bd 3), .ref (bd 4), .ref (bd 5), .ref (bd 6), .int (iI ((nr : Nat) : Int)), .ref (bd 8), .ref (bd 9), .ref (bd 10), .ref (bd 11), .int (iI ((T_o : Nat) : Int)), .long (lI fnd), .int (iI rel), .ref (bd 15), .int (iI (cs x_o.toNat)), .ref (bd 17), .ref (bd 18), .int (iI tm), .ref (bd 20), .ref (bd 21), .int (iI sm), .int (iI dp), .int (iI th)])) 35 (bd 15) (ai 10 (m_cpl rx (lts x_o.toNat) (p_o + 1))))) (by rw [kset_kset, m_cpl_s hp.1]) ?_
        refine k_sub (lv' := [(0, .ref (bd 25)), (1, .int (iI x_o)), (2, .int (iI (p_o + 1)))]) [1, 2, 0] rfl ?_
        exact ih12 (p_o + 1) (by omega) (by omega)
  refine k_world (w' := (kset (kset w_o 19 (bd 25) (ob 9 [.ref (bd 0), .ref (bd 1), .ref (bd 2), .ref (bd 3), .ref (bd 4), .ref (bd 5), .ref (bd 6), .int (iI ((nr : Nat) : Int)), .ref (bd 8), .ref (bd 9), .ref (bd 10), .ref (bd 11), .int (iI ((T_o : Nat) : Int)), .long (lI fnd), .int (iI rel), .ref (bd 15), .int (iI (cs x_o.toNat)), .ref (bd 17), .ref (bd 18), .int (iI tm), .ref (bd 20), .ref (bd 21), .int (iI sm), .int (iI dp), .int (iI th)])) 35 (bd 15) (ai 10 (m_cpl rx (lts x_o.toNat) 0)))) (by rw [m_cpl_0]; exact (kset_id ((kset_ne (by decide)).trans hmd.2.2.2.2.2.2.2.2.2.2.2.2.1)).symm) ?_
  refine k_sub (lv' := [(0, .ref (bd 25)), (1, .int (iI x_o)), (2, .int (iI 0))]) [1, 2, 0] rfl ?_
  exact L12 ((cs x_o.toNat - 0 : Int).toNat + 1) 0 (by omega) (by omega)

set_option maxHeartbeats 400000 in
set_option maxRecDepth 100000 in
theorem c_X7_chosen {E_o : kE} {l_o : Launch} (hl0 : l_o.stackTraces = false) {w_o : kW} {bd : Nat → Nat} {nr : Nat} {g_o : Nat → Nat → Int} {T_o : Nat} {cs ams ltA acA mnA : Nat → Int} {rel fnd sz : Int} {rx : Nat → Int} {N_o : Nat → Nat} {tm : Int} {tr sh sg : Nat → Int} {sm dp th : Int} {nm i_o j_o : Int} (hmd : kMd w_o bd nr g_o T_o cs ams ltA acA mnA rel fnd sz rx N_o tm tr sh sg sm dp th) (hrx : kLt rx) (hN_o : ∀ x_o, N_o x_o ≤ 1000) (hwf : kWf g_o nr) (hnr : nr ≤ 12) (hmn : ∀ r_o, r_o < nr → mnA r_o = m_np g_o r_o) (hn : m_isN nm) (hi_o : 0 ≤ i_o ∧ i_o ≤ j_o) (hj : j_o < 10) : kM E_o l_o yX7_chosen (.code yX7_chosen cX7_chosen 7 (some .int) :: kAL) { frames := 5, cells := 0, slots := 0, locals := 120 } 0 0 [.ref (bd 25), .int (iI nm), .int (iI i_o), .int (iI j_o)] w_o (pI (fun z_o w2_o => m_ch g_o (m_Cn N_o) rx nm i_o j_o nr = z_o ∧ w_o = w2_o)) := by
  refine kM_of hl0 (by decide +kernel) (Nat.le_of_ble_eq_true rfl) ?_
  intro X_o hXl h_o hr hin
  subst hXl
  show kG E_o X_o 7 0 0 w_o 0 [(0, .ref (bd 25)), (1, .int (iI nm)), (2, .int (iI i_o)), (3, .int (iI j_o))] []
  refine k_iconst h_o dX7_chosen_0 ?_
  refine k_istore (lv' := [(4, .int (iI (-1))), (0, .ref (bd 25)), (1, .int (iI nm)), (2, .int (iI i_o)), (3, .int (iI j_o))]) h_o dX7_chosen_1 (by decide) rfl ?_
  refine k_iconst h_o dX7_chosen_3 ?_
  refine k_istore (lv' := [(5, .int (iI 0)), (4, .int (iI (-1))), (0, .ref (bd 25)), (1, .int (iI nm)), (2, .int (iI i_o)), (3, .int (iI j_o))]) h_o dX7_chosen_4 (by decide) rfl ?_
  have L6 : ∀ (mm : Nat) (r_o : Int) (b_o : Int), (0 ≤ r_o ∧ r_o ≤ ((nr : Nat) : Int)) → (b_o = m_ch g_o (m_Cn N_o) rx nm i_o j_o r_o.toNat) → ((nr : Nat) : Int) - r_o < (mm : Int) → kG E_o X_o 7 0 0 w_o 6 [(0, .ref (bd 25)), (1, .int (iI nm)), (2, .int (iI i_o)), (3, .int (iI j_o)), (4, .int (iI b_o)), (5, .int (iI r_o))] [] := by
    intro mm
    induction mm with
    | zero =>
      intro r_o b_o hr2 hb hm_o
      exfalso; omega
    | succ mm ih6 =>
      intro r_o b_o hr2 hb hm_o
      have hbr := m_ch_rg (g := g_o) (C := m_Cn N_o) (lt := rx) (nm := nm) (i := i_o) (j := j_o) r_o.toNat
      rw [← hb] at hbr
      refine k_iload h_o 5 dX7_chosen_6 rfl ?_
      refine k_aload_n h_o 0 dX7_chosen_8 rfl rfl ?_
      refine k_get h_o 19 kf_X7_96 hmd.1 rfl dX7_chosen_9 ?_
      refine k_icmp_ge h_o 97 (by omega) (by omega) dX7_chosen_12 (by decide) (fun h12_o => ?_) (fun h12_o => ?_)
      · refine k_iload h_o 4 dX7_chosen_97 rfl ?_
        exact k_iret h_o hr rfl (⟨_, rfl, (by rw [hb, show r_o.toNat = nr by omega]), rfl⟩) (by omega) (by omega) dX7_chosen_99
      · obtain ⟨hrw, hq5, hq6, hq7, hq8⟩ := hwf r_o.toNat (by omega)
        have hmr := hmn r_o.toNat (by omega)
        have hrg1 := hrw.1
        have hbq : b_o = -1 ∨ (0 ≤ b_o ∧ b_o < r_o ∧ 0 ≤ g_o 5 b_o.toNat ∧ g_o 5 b_o.toNat ≤ 9) := by rcases hbr with q_o | ⟨q1, q2, q3⟩; exact Or.inl q_o; exact Or.inr ⟨q1, by omega, (hwf b_o.toNat (by omega)).2.1.1, (hwf b_o.toNat (by omega)).2.1.2⟩
        refine k_aload_n h_o 0 dX7_chosen_15 rfl rfl ?_
        refine k_get h_o 19 kf_X7_28 hmd.1 rfl dX7_chosen_16 ?_
        refine k_iload h_o 5 dX7_chosen_19 rfl ?_
        refine k_zald h_o 26 hmd.2.2.2.2.2.2.2.1 (by omega) (by decide) dX7_chosen_21 ?_
        refine k_ifne h_o 51 (by omega) dX7_chosen_22 (by decide) (fun h22_o => ?_) (fun h22_o => ?_)
        · refine k_iconst h_o dX7_chosen_51 ?_
          refine k_istore (lv' := [(6, .int (iI 0)), (0, .ref (bd 25)), (1, .int (iI nm)), (2, .int (iI i_o)), (3, .int (iI j_o)), (4, .int (iI b_o)), (5, .int (iI r_o))]) h_o dX7_chosen_52 (by decide) rfl ?_
          refine k_iload h_o 0 dX7_chosen_54 rfl ?_
          refine k_ifeq h_o 87 (by decide) dX7_chosen_56 (by decide) (fun h56_o => ?_) (fun h56_o => ?_)
          · refine k_iload h_o 5 dX7_chosen_87 rfl ?_
            refine k_istore (lv' := [(4, .int (iI b_o)), (6, .int (iI 0)), (0, .ref (bd 25)), (1, .int (iI nm)), (2, .int (iI i_o)), (3, .int (iI j_o)), (5, .int (iI r_o))]) h_o dX7_chosen_89 (by decide) rfl ?_
            refine k_iinc (lv' := [(5, .int (iI (r_o + 1))), (4, .int (iI b_o)), (6, .int (iI 0)), (0, .ref (bd 25)), (1, .int (iI nm)), (2, .int (iI i_o)), (3, .int (iI j_o))]) h_o 6 dX7_chosen_91 rfl (by decide) rfl ?_
            refine k_goto h_o 6 dX7_chosen_94 (by decide) ?_
            refine k_sub (lv' := [(0, .ref (bd 25)), (1, .int (iI nm)), (2, .int (iI i_o)), (3, .int (iI j_o)), (4, .int (iI b_o)), (5, .int (iI (r_o + 1)))]) [3, 4, 5, 6, 1, 0] rfl ?_
            exact ih6 (r_o + 1) b_o (by omega) (by rw [show (r_o + 1).toNat = r_o.toNat + 1 by omega, m_ch_f (fun q_o => by have q1 := q_o.1.1; have q2 := q_o.1.2.1; have q3 := m_cap_pos.mpr q_o.1.2.2; omega)]; exact hb) (by omega)
          · exfalso; omega
        · refine k_aload_n h_o 0 dX7_chosen_25 rfl rfl ?_
          refine k_get h_o 19 kf_X7_7 hmd.1 rfl dX7_chosen_26 ?_
          refine k_iload h_o 5 dX7_chosen_29 rfl ?_
          refine k_iald h_o 20 hmd.2.1 (by omega) (by decide) dX7_chosen_31 ?_
          refine k_iload_n h_o 1 dX7_chosen_32 rfl rfl ?_
          refine k_icmp_ne h_o 51 (by omega) (by omega) dX7_chosen_33 (by decide) (fun h33_o => ?_) (fun h33_o => ?_)
          · refine k_iconst h_o dX7_chosen_51 ?_
            refine k_istore (lv' := [(6, .int (iI 0)), (0, .ref (bd 25)), (1, .int (iI nm)), (2, .int (iI i_o)), (3, .int (iI j_o)), (4, .int (iI b_o)), (5, .int (iI r_o))]) h_o dX7_chosen_52 (by decide) rfl ?_
            refine k_iload h_o 0 dX7_chosen_54 rfl ?_
            refine k_ifeq h_o 87 (by decide) dX7_chosen_56 (by decide) (fun h56_o => ?_) (fun h56_o => ?_)
            · refine k_iload h_o 5 dX7_chosen_87 rfl ?_
              refine k_istore (lv' := [(4, .int (iI b_o)), (6, .int (iI 0)), (0, .ref (bd 25)), (1, .int (iI nm)), (2, .int (iI i_o)), (3, .int (iI j_o)), (5, .int (iI r_o))]) h_o dX7_chosen_89 (by decide) rfl ?_
              refine k_iinc (lv' := [(5, .int (iI (r_o + 1))), (4, .int (iI b_o)), (6, .int (iI 0)), (0, .ref (bd 25)), (1, .int (iI nm)), (2, .int (iI i_o)), (3, .int (iI j_o))]) h_o 6 dX7_chosen_91 rfl (by decide) rfl ?_
              refine k_goto h_o 6 dX7_chosen_94 (by decide) ?_
              refine k_sub (lv' := [(0, .ref (bd 25)), (1, .int (iI nm)), (2, .int (iI i_o)), (3, .int (iI j_o)), (4, .int (iI b_o)), (5, .int (iI (r_o + 1)))]) [3, 4, 5, 6, 1, 0] rfl ?_
              exact ih6 (r_o + 1) b_o (by omega) (by rw [show (r_o + 1).toNat = r_o.toNat + 1 by omega, m_ch_f (fun q_o => by have q1 := q_o.1.1; have q2 := q_o.1.2.1; have q3 := m_cap_pos.mpr q_o.1.2.2; omega)]; exact hb) (by omega)
            · exfalso; omega
          · refine k_aload_n h_o 0 dX7_chosen_36 rfl rfl ?_
            refine k_iload h_o 5 dX7_chosen_37 rfl ?_
            refine k_iload_n h_o 2 dX7_chosen_39 rfl rfl ?_
            refine k_iload_n h_o 3 dX7_chosen_40 rfl rfl ?_
            refine k_callV (As := [.int (iI r_o), .int (iI i_o), .int (iI j_o)]) (rest := []) h_o mX7_ways kq_5_32 (c_X7_ways hl0 hmd hrx hN_o (by omega) hrw hmr (by omega) (by omega)) 19 hmd.1 rfl rfl rfl (Nat.le_of_ble_eq_true rfl) ⟨rfl, rfl, ⟨(Nat.le_of_ble_eq_true rfl), (Nat.le_of_ble_eq_true rfl)⟩, ⟨(Nat.le_of_ble_eq_true rfl), (Nat.le_of_ble_eq_true rfl)⟩⟩ dX7_chosen_41 (kcI fun z41_o w41_o hp => ?_)
            obtain ⟨rfl, rfl⟩ := hp
            refine k_ifle h_o 51 (m_natrg (m_cap_le _)) dX7_chosen_44 (by decide) (fun h44_o => ?_) (fun h44_o => ?_)
            · refine k_iconst h_o dX7_chosen_51 ?_
              refine k_istore (lv' := [(6, .int (iI 0)), (0, .ref (bd 25)), (1, .int (iI nm)), (2, .int (iI i_o)), (3, .int (iI j_o)), (4, .int (iI b_o)), (5, .int (iI r_o))]) h_o dX7_chosen_52 (by decide) rfl ?_
              refine k_iload h_o 0 dX7_chosen_54 rfl ?_
              refine k_ifeq h_o 87 (by decide) dX7_chosen_56 (by decide) (fun h56_o => ?_) (fun h56_o => ?_)
              · refine k_iload h_o 5 dX7_chosen_87 rfl ?_
                refine k_istore (lv' := [(4, .int (iI b_o)), (6, .int (iI 0)), (0, .ref (bd 25)), (1, .int (iI nm)), (2, .int (iI i_o)), (3, .int (iI j_o)), (5, .int (iI r_o))]) h_o dX7_chosen_89 (by decide) rfl ?_
                refine k_iinc (lv' := [(5, .int (iI (r_o + 1))), (4, .int (iI b_o)), (6, .int (iI 0)), (0, .ref (bd 25)), (1, .int (iI nm)), (2, .int (iI i_o)), (3, .int (iI j_o))]) h_o 6 dX7_chosen_91 rfl (by decide) rfl ?_
                refine k_goto h_o 6 dX7_chosen_94 (by decide) ?_
                refine k_sub (lv' := [(0, .ref (bd 25)), (1, .int (iI nm)), (2, .int (iI i_o)), (3, .int (iI j_o)), (4, .int (iI b_o)), (5, .int (iI (r_o + 1)))]) [3, 4, 5, 6, 1, 0] rfl ?_
                exact ih6 (r_o + 1) b_o (by omega) (by rw [show (r_o + 1).toNat = r_o.toNat + 1 by omega, m_ch_f (fun q_o => by have q1 := q_o.1.1; have q2 := q_o.1.2.1; have q3 := m_cap_pos.mpr q_o.1.2.2; omega)]; exact hb) (by omega)
              · exfalso; omega
            · refine k_iconst h_o dX7_chosen_47 ?_
              refine k_goto h_o 52 dX7_chosen_48 (by decide) ?_
              refine k_istore (lv' := [(6, .int (iI 1)), (0, .ref (bd 25)), (1, .int (iI nm)), (2, .int (iI i_o)), (3, .int (iI j_o)), (4, .int (iI b_o)), (5, .int (iI r_o))]) h_o dX7_chosen_52 (by decide) rfl ?_
              refine k_iload h_o 0 dX7_chosen_54 rfl ?_
              refine k_ifeq h_o 87 (by decide) dX7_chosen_56 (by decide) (fun h56_o => ?_) (fun h56_o => ?_)
              · exfalso; omega
              · refine k_iload h_o 5 dX7_chosen_59 rfl ?_
                refine k_iconst h_o dX7_chosen_61 ?_
                refine k_icmp_eq h_o 82 (by omega) (by decide) dX7_chosen_62 (by decide) (fun h62_o => ?_) (fun h62_o => ?_)
                · refine k_iload h_o 6 dX7_chosen_82 rfl ?_
                  refine k_goto h_o 89 dX7_chosen_84 (by decide) ?_
                  refine k_istore (lv' := [(4, .int (iI r_o)), (6, .int (iI 1)), (0, .ref (bd 25)), (1, .int (iI nm)), (2, .int (iI i_o)), (3, .int (iI j_o)), (5, .int (iI r_o))]) h_o dX7_chosen_89 (by decide) rfl ?_
                  refine k_iinc (lv' := [(5, .int (iI (r_o + 1))), (4, .int (iI r_o)), (6, .int (iI 1)), (0, .ref (bd 25)), (1, .int (iI nm)), (2, .int (iI i_o)), (3, .int (iI j_o))]) h_o 6 dX7_chosen_91 rfl (by decide) rfl ?_
                  refine k_goto h_o 6 dX7_chosen_94 (by decide) ?_
                  refine k_sub (lv' := [(0, .ref (bd 25)), (1, .int (iI nm)), (2, .int (iI i_o)), (3, .int (iI j_o)), (4, .int (iI r_o)), (5, .int (iI (r_o + 1)))]) [3, 4, 5, 6, 1, 0] rfl ?_
                  exact ih6 (r_o + 1) r_o (by omega) (by have e_o := m_ch_t (g := g_o) (C := m_Cn N_o) (lt := rx) (nm := nm) (i := i_o) (j := j_o) (r := r_o.toNat) ⟨h22_o, h33_o, m_cap_pos.mp (by omega)⟩ (by rw [← hb]; omega); rw [show (r_o + 1).toNat = r_o.toNat + 1 by omega, e_o]; omega) (by omega)
                · refine k_aload_n h_o 1 dX7_chosen_65 rfl rfl ?_
                  refine k_get h_o 19 kf_X7_19 hmd.1 rfl dX7_chosen_66 ?_
                  refine k_iload h_o 6 dX7_chosen_69 rfl ?_
                  refine k_iald h_o 23 hmd.2.2.2.2.1 (by omega) (by decide) dX7_chosen_71 ?_
                  refine k_aload_n h_o 1 dX7_chosen_72 rfl rfl ?_
                  refine k_get h_o 19 kf_X7_19 hmd.1 rfl dX7_chosen_73 ?_
                  refine k_iload h_o 5 dX7_chosen_76 rfl ?_
                  refine k_iald h_o 23 hmd.2.2.2.2.1 (by omega) (by decide) dX7_chosen_78 ?_
                  refine k_icmp_le h_o 87 (by omega) (by omega) dX7_chosen_79 (by decide) (fun h79_o => ?_) (fun h79_o => ?_)
                  · refine k_iload h_o 5 dX7_chosen_87 rfl ?_
                    refine k_istore (lv' := [(4, .int (iI b_o)), (6, .int (iI 1)), (0, .ref (bd 25)), (1, .int (iI nm)), (2, .int (iI i_o)), (3, .int (iI j_o)), (5, .int (iI r_o))]) h_o dX7_chosen_89 (by decide) rfl ?_
                    refine k_iinc (lv' := [(5, .int (iI (r_o + 1))), (4, .int (iI b_o)), (6, .int (iI 1)), (0, .ref (bd 25)), (1, .int (iI nm)), (2, .int (iI i_o)), (3, .int (iI j_o))]) h_o 6 dX7_chosen_91 rfl (by decide) rfl ?_
                    refine k_goto h_o 6 dX7_chosen_94 (by decide) ?_
                    refine k_sub (lv' := [(0, .ref (bd 25)), (1, .int (iI nm)), (2, .int (iI i_o)), (3, .int (iI j_o)), (4, .int (iI b_o)), (5, .int (iI (r_o + 1)))]) [3, 4, 5, 6, 1, 0] rfl ?_
                    exact ih6 (r_o + 1) b_o (by omega) (by rw [show (r_o + 1).toNat = r_o.toNat + 1 by omega, m_ch_f (fun q_o => by have q2 := q_o.2; rw [← hb] at q2; omega)]; exact hb) (by omega)
                  · refine k_iload h_o 6 dX7_chosen_82 rfl ?_
                    refine k_goto h_o 89 dX7_chosen_84 (by decide) ?_
                    refine k_istore (lv' := [(4, .int (iI r_o)), (6, .int (iI 1)), (0, .ref (bd 25)), (1, .int (iI nm)), (2, .int (iI i_o)), (3, .int (iI j_o)), (5, .int (iI r_o))]) h_o dX7_chosen_89 (by decide) rfl ?_
                    refine k_iinc (lv' := [(5, .int (iI (r_o + 1))), (4, .int (iI r_o)), (6, .int (iI 1)), (0, .ref (bd 25)), (1, .int (iI nm)), (2, .int (iI i_o)), (3, .int (iI j_o))]) h_o 6 dX7_chosen_91 rfl (by decide) rfl ?_
                    refine k_goto h_o 6 dX7_chosen_94 (by decide) ?_
                    refine k_sub (lv' := [(0, .ref (bd 25)), (1, .int (iI nm)), (2, .int (iI i_o)), (3, .int (iI j_o)), (4, .int (iI r_o)), (5, .int (iI (r_o + 1)))]) [3, 4, 5, 6, 1, 0] rfl ?_
                    exact ih6 (r_o + 1) r_o (by omega) (by have e_o := m_ch_t (g := g_o) (C := m_Cn N_o) (lt := rx) (nm := nm) (i := i_o) (j := j_o) (r := r_o.toNat) ⟨h22_o, h33_o, m_cap_pos.mp (by omega)⟩ (by rw [← hb]; omega); rw [show (r_o + 1).toNat = r_o.toNat + 1 by omega, e_o]; omega) (by omega)
  refine k_sub (lv' := [(0, .ref (bd 25)), (1, .int (iI nm)), (2, .int (iI i_o)), (3, .int (iI j_o)), (4, .int (iI (-1))), (5, .int (iI 0))]) [2, 3, 4, 5, 1, 0] rfl ?_
  exact L6 ((((nr : Nat) : Int) - 0 : Int).toNat + 1) 0 (-1) (by omega) rfl (by omega)

set_option maxHeartbeats 400000 in
set_option maxRecDepth 100000 in
theorem c_X7_cut {E_o : kE} {l_o : Launch} (hl0 : l_o.stackTraces = false) {w_o : kW} {bd : Nat → Nat} {nr : Nat} {g_o : Nat → Nat → Int} {T_o : Nat} {cs ams ltA acA mnA : Nat → Int} {rel fnd sz : Int} {rx : Nat → Int} {N_o : Nat → Nat} {tm : Int} {tr sh sg : Nat → Int} {sm dp th : Int} {x_o y_o i_o j_o k0 : Int} (hmd : kMd w_o bd nr g_o T_o cs ams ltA acA mnA rel fnd sz rx N_o tm tr sh sg sm dp th) (hrx : kLt rx) (hN_o : ∀ x_o, N_o x_o ≤ 1000) (hx : m_isS x_o) (hy : m_isS y_o) (hi_o : 0 ≤ i_o ∧ i_o ≤ j_o) (hj : j_o < 10) (hk0 : i_o ≤ k0 ∧ k0 < j_o) (hP : 0 < m_part (m_Cn N_o) rx x_o i_o k0 ∧ 0 < m_part (m_Cn N_o) rx y_o (k0 + 1) j_o) : kM E_o l_o yX7_cut (.code yX7_cut cX7_cut 6 (some .int) :: kAL) { frames := 3, cells := 0, slots := 0, locals := 68 } 0 0 [.ref (bd 25), .int (iI x_o), .int (iI y_o), .int (iI i_o), .int (iI j_o)] w_o (pI (fun z_o w2_o => m_fs (fun k_o => 0 < m_part (m_Cn N_o) rx x_o i_o k_o ∧ 0 < m_part (m_Cn N_o) rx y_o (k_o + 1) j_o) i_o j_o = z_o ∧ w_o = w2_o)) := by
  refine kM_of hl0 (by decide +kernel) (Nat.le_of_ble_eq_true rfl) ?_
  intro X_o hXl h_o hr hin
  subst hXl
  show kG E_o X_o 6 0 0 w_o 0 [(0, .ref (bd 25)), (1, .int (iI x_o)), (2, .int (iI y_o)), (3, .int (iI i_o)), (4, .int (iI j_o))] []
  refine k_iload_n h_o 3 dX7_cut_0 rfl rfl ?_
  refine k_istore (lv' := [(5, .int (iI i_o)), (0, .ref (bd 25)), (1, .int (iI x_o)), (2, .int (iI y_o)), (3, .int (iI i_o)), (4, .int (iI j_o))]) h_o dX7_cut_1 (by decide) rfl ?_
  have L3 : ∀ (mm : Nat) (k_o : Int), (i_o ≤ k_o ∧ k_o ≤ k0) → (∀ z_o : Int, i_o ≤ z_o → z_o < k_o → ¬ (0 < m_part (m_Cn N_o) rx x_o i_o z_o ∧ 0 < m_part (m_Cn N_o) rx y_o (z_o + 1) j_o)) → (k0 + 1 - k_o < (mm : Int)) → kG E_o X_o 6 0 0 w_o 3 [(0, .ref (bd 25)), (1, .int (iI x_o)), (2, .int (iI y_o)), (3, .int (iI i_o)), (4, .int (iI j_o)), (5, .int (iI k_o))] [] := by
    intro mm
    induction mm with
    | zero =>
      intro k_o hk hno hm_o
      exfalso; omega
    | succ mm ih3 =>
      intro k_o hk hno hm_o
      refine k_aload_n h_o 0 dX7_cut_3 rfl rfl ?_
      refine k_iload_n h_o 1 dX7_cut_4 rfl rfl ?_
      refine k_iload_n h_o 3 dX7_cut_5 rfl rfl ?_
      refine k_iload h_o 5 dX7_cut_6 rfl ?_
      refine k_callV (As := [.int (iI x_o), .int (iI i_o), .int (iI k_o)]) (rest := []) h_o mX7_part kq_5_36 (c_X7_part hl0 hmd hrx (by omega) (by omega) (by omega)) 19 hmd.1 rfl rfl rfl (Nat.le_of_ble_eq_true rfl) ⟨rfl, rfl, ⟨(Nat.le_of_ble_eq_true rfl), (Nat.le_of_ble_eq_true rfl)⟩, ⟨(Nat.le_of_ble_eq_true rfl), (Nat.le_of_ble_eq_true rfl)⟩⟩ dX7_cut_8 (kcI fun z8_o w8_o hp => ?_)
      obtain ⟨rfl, rfl⟩ := hp
      refine k_ifeq h_o 28 (m_natrg (m_pC_le hN_o)) dX7_cut_11 (by decide) (fun h11_o => ?_) (fun h11_o => ?_)
      · refine k_iinc (lv' := [(5, .int (iI (k_o + 1))), (0, .ref (bd 25)), (1, .int (iI x_o)), (2, .int (iI y_o)), (3, .int (iI i_o)), (4, .int (iI j_o))]) h_o 5 dX7_cut_28 rfl (by decide) rfl ?_
        refine k_goto h_o 3 dX7_cut_31 (by decide) ?_
        refine k_sub (lv' := [(0, .ref (bd 25)), (1, .int (iI x_o)), (2, .int (iI y_o)), (3, .int (iI i_o)), (4, .int (iI j_o)), (5, .int (iI (k_o + 1)))]) [1, 2, 3, 4, 5, 0] rfl ?_
        exact ih3 (k_o + 1) (by rcases Int.lt_or_eq_of_le hk.2 with q_o | q_o; omega; exfalso; subst q_o; have a1 := hP.1; have a2 := hP.2; omega) (fun z_o q1 q2 => by by_cases e_o : z_o = k_o; subst e_o; intro q_o; have a1 := q_o.1; have a2 := q_o.2; omega; exact hno z_o q1 (by omega)) (by omega)
      · refine k_aload_n h_o 0 dX7_cut_14 rfl rfl ?_
        refine k_iload_n h_o 2 dX7_cut_15 rfl rfl ?_
        refine k_iload h_o 5 dX7_cut_16 rfl ?_
        refine k_iconst h_o dX7_cut_18 ?_
        refine k_iadd h_o dX7_cut_19 ?_
        refine k_iload h_o 4 dX7_cut_20 rfl ?_
        refine k_callV (As := [.int (iI y_o), .int (iI (k_o + 1)), .int (iI j_o)]) (rest := []) h_o mX7_part kq_5_36 (c_X7_part hl0 hmd hrx (by omega) (by omega) (by omega)) 19 hmd.1 rfl rfl rfl (Nat.le_of_ble_eq_true rfl) ⟨rfl, rfl, ⟨(Nat.le_of_ble_eq_true rfl), (Nat.le_of_ble_eq_true rfl)⟩, ⟨(Nat.le_of_ble_eq_true rfl), (Nat.le_of_ble_eq_true rfl)⟩⟩ dX7_cut_22 (kcI fun z22_o w22_o hp => ?_)
        obtain ⟨rfl, rfl⟩ := hp
        refine k_ifne h_o 34 (m_natrg (m_pC_le hN_o)) dX7_cut_25 (by decide) (fun h25_o => ?_) (fun h25_o => ?_)
        · refine k_iload h_o 5 dX7_cut_34 rfl ?_
          exact k_iret h_o hr rfl (⟨_, rfl, m_fs_eq (P := (fun k_o => 0 < m_part (m_Cn N_o) rx x_o i_o k_o ∧ 0 < m_part (m_Cn N_o) rx y_o (k_o + 1) j_o)) hk.1 (by omega) ⟨(by omega), (by omega)⟩ hno, rfl⟩) (by omega) (by omega) dX7_cut_36
        · refine k_iinc (lv' := [(5, .int (iI (k_o + 1))), (0, .ref (bd 25)), (1, .int (iI x_o)), (2, .int (iI y_o)), (3, .int (iI i_o)), (4, .int (iI j_o))]) h_o 5 dX7_cut_28 rfl (by decide) rfl ?_
          refine k_goto h_o 3 dX7_cut_31 (by decide) ?_
          refine k_sub (lv' := [(0, .ref (bd 25)), (1, .int (iI x_o)), (2, .int (iI y_o)), (3, .int (iI i_o)), (4, .int (iI j_o)), (5, .int (iI (k_o + 1)))]) [1, 2, 3, 4, 5, 0] rfl ?_
          exact ih3 (k_o + 1) (by rcases Int.lt_or_eq_of_le hk.2 with q_o | q_o; omega; exfalso; subst q_o; have a1 := hP.1; have a2 := hP.2; omega) (fun z_o q1 q2 => by by_cases e_o : z_o = k_o; subst e_o; intro q_o; have a1 := q_o.1; have a2 := q_o.2; omega; exact hno z_o q1 (by omega)) (by omega)
  refine k_sub (lv' := [(0, .ref (bd 25)), (1, .int (iI x_o)), (2, .int (iI y_o)), (3, .int (iI i_o)), (4, .int (iI j_o)), (5, .int (iI i_o))]) [1, 2, 3, 4, 5, 0] rfl ?_
  exact L3 ((k0 + 1 - i_o : Int).toNat + 1) i_o (by omega) (fun z_o q1 q2 => by omega) (by omega)
