set_option maxHeartbeats 4000000 in
set_option maxRecDepth 100000 in
theorem c_X3_findSpan {E_o : kE} {l_o : Launch} (hl0 : l_o.stackTraces = false) {w_o : kW} {q_o a_o la na : Nat} {lt_o : Nat → Int} {N_o : Nat → Nat} {c_o : Int} {ag ap nr : Nat} {ra : Nat → Nat} {g_o : Nat → Nat → Int} {i_o j_o : Int} (hsp : kSp w_o q_o a_o la na lt_o N_o c_o) (hlt : kLt lt_o) (hN_o : ∀ x_o, N_o x_o ≤ 1000) (hgr : kGr w_o ag ap nr ra g_o) (hwf : kWf g_o nr) (hq : (4 ≤ q_o ∧ q_o + 2 < 100) ∨ 112 ≤ q_o) (hi_o : 0 ≤ i_o ∧ i_o ≤ j_o) (hj : j_o < 10) (hsub : ∀ s_o i2 j2 : Int, m_isN s_o → i_o ≤ i2 → i2 ≤ j2 → j2 ≤ j_o → j2 - i2 < j_o - i_o → m_Cn N_o s_o i2 j2 = m_TT g_o nr lt_o s_o i2 j2) : kM E_o l_o yX3_findSpan (.code yX3_findSpan cX3_findSpan 8 none :: kAL) { frames := 2, cells := 0, slots := 0, locals := 51 } 0 0 [.ref a_o, .ref ag, .int (iI i_o), .int (iI j_o)] w_o (pV (fun w2_o => ∃ N2 : Nat → Nat, kset w_o (q_o + 2) na (kNm N2) = w2_o ∧ (∀ x_o, N2 x_o ≤ 1000) ∧ (∀ s_o, m_isN s_o → m_Cn N2 s_o i_o j_o = m_TT g_o nr lt_o s_o i_o j_o) ∧ (∀ s_o i2 j2 : Int, m_isN s_o → 0 ≤ i2 → i2 ≤ j2 → j2 < 10 → (i2 ≠ i_o ∨ j2 ≠ j_o) → m_Cn N2 s_o i2 j2 = m_Cn N_o s_o i2 j2))) := by
  refine kM_of hl0 (by decide +kernel) (Nat.le_of_ble_eq_true rfl) ?_
  intro X_o hXl h_o hr hin
  subst hXl
  have hnr := hgr.2.2.2
  show kG E_o X_o 8 0 0 w_o 0 [(0, .ref a_o), (1, .ref ag), (2, .int (iI i_o)), (3, .int (iI j_o))] []
  refine k_bipush h_o dX3_findSpan_0 (by decide) ?_
  refine k_istore (lv' := [(4, .int (iI 14)), (0, .ref a_o), (1, .ref ag), (2, .int (iI i_o)), (3, .int (iI j_o))]) h_o dX3_findSpan_2 (by decide) rfl ?_
  have L4 : ∀ (mm : Nat) (nm : Int) (N1 : Nat → Nat), (9 ≤ nm ∧ nm ≤ 14) → (∀ x_o, N1 x_o ≤ 1000) → (∀ s_o : Int, nm < s_o → s_o < 15 → m_Cn N1 s_o i_o j_o = m_TT g_o nr lt_o s_o i_o j_o) → (∀ s_o i2 j2 : Int, m_isN s_o → 0 ≤ i2 → i2 ≤ j2 → j2 < 10 → (i2 ≠ i_o ∨ j2 ≠ j_o) → m_Cn N1 s_o i2 j2 = m_Cn N_o s_o i2 j2) → (nm - 9 < (mm : Int)) → kG E_o X_o 8 0 0 (kset w_o (q_o + 2) na (kNm N1)) 4 [(0, .ref a_o), (1, .ref ag), (2, .int (iI i_o)), (3, .int (iI j_o)), (4, .int (iI nm))] [] := by
    intro mm
    induction mm with
    | zero =>
      intro nm N1 hnm hN1 hd hot hm_o
      exfalso; omega
    | succ mm ih4 =>
      intro nm N1 hnm hN1 hd hot hm_o
      have hsp1 : (kSp (kset w_o (q_o + 2) na (kNm N1)) q_o a_o la na lt_o N1 c_o) := hsp.num
      have hgr1 : (kGr (kset w_o (q_o + 2) na (kNm N1)) ag ap nr ra g_o) := hgr.ne (by omega) (by omega) (by omega)
      refine k_iload h_o 4 dX3_findSpan_4 rfl ?_
      refine k_bipush h_o dX3_findSpan_6 (by decide) ?_
      refine k_icmp_lt h_o 110 (by omega) (by decide) dX3_findSpan_8 (by decide) (fun h8_o => ?_) (fun h8_o => ?_)
      · exact k_vret h_o hr (⟨rfl, N1, rfl, hN1, fun x_o q1 => hd x_o (by omega) (by omega), hot⟩) (by omega) (by omega) dX3_findSpan_110
      · refine k_iconst h_o dX3_findSpan_11 ?_
        refine k_istore (lv' := [(5, .int (iI 0)), (0, .ref a_o), (1, .ref ag), (2, .int (iI i_o)), (3, .int (iI j_o)), (4, .int (iI nm))]) h_o dX3_findSpan_12 (by decide) rfl ?_
        refine k_iconst h_o dX3_findSpan_14 ?_
        refine k_istore (lv' := [(6, .int (iI 0)), (5, .int (iI 0)), (0, .ref a_o), (1, .ref ag), (2, .int (iI i_o)), (3, .int (iI j_o)), (4, .int (iI nm))]) h_o dX3_findSpan_15 (by decide) rfl ?_
        have L17 : ∀ (mm : Nat) (r_o : Int) (s_o : Nat), (0 ≤ r_o ∧ r_o ≤ (nr : Int)) → (s_o ≤ 1000) → (s_o = m_cap (m_sn (m_rs (m_Cn N1) lt_o g_o nm i_o j_o) r_o.toNat)) → (nr : Int) - r_o < (mm : Int) → kG E_o X_o 8 0 0 (kset w_o (q_o + 2) na (kNm N1)) 17 [(0, .ref a_o), (1, .ref ag), (2, .int (iI i_o)), (3, .int (iI j_o)), (4, .int (iI nm)), (5, .int (iI ((s_o : Nat) : Int))), (6, .int (iI r_o))] [] := by
          intro mm
          induction mm with
          | zero =>
            intro r_o s_o hr2 hs1 hs2 hm_o
            exfalso; omega
          | succ mm ih17 =>
            intro r_o s_o hr2 hs1 hs2 hm_o
            refine k_iload h_o 6 dX3_findSpan_17 rfl ?_
            refine k_aload_n h_o 1 dX3_findSpan_19 rfl rfl ?_
            refine k_get h_o 1 kf_X3_67 hgr1.1 rfl dX3_findSpan_20 ?_
            refine k_icmp_ge h_o 71 (by omega) (by omega) dX3_findSpan_23 (by decide) (fun h23_o => ?_) (fun h23_o => ?_)
            · have htrue : s_o = m_TT g_o nr lt_o nm i_o j_o := by
                rw [hs2, show r_o.toNat = nr by omega]
                exact m_row_true (fun x_o hx => (hwf x_o hx).1) (by omega) hi_o.2 (by omega) (fun x_o i2 j2 q0 q1 q2 q3 q4 => (hot x_o i2 j2 q0 (by omega) q2 (by omega) (by omega)).trans (hsub x_o i2 j2 q0 q1 q2 q3 q4)) hd
              refine k_iload h_o 4 dX3_findSpan_71 rfl ?_
              refine k_iload_n h_o 2 dX3_findSpan_73 rfl rfl ?_
              refine k_iload_n h_o 3 dX3_findSpan_74 rfl rfl ?_
              refine k_callSN (As := [.int (iI nm), .int (iI i_o), .int (iI j_o)]) (rest := []) h_o mX6_spot kq_2_1 (c_X6_spot hl0 (by omega) (by omega) (by omega)) rfl rfl (Nat.le_of_ble_eq_true rfl) ⟨rfl, rfl, ⟨(Nat.le_of_ble_eq_true rfl), (Nat.le_of_ble_eq_true rfl)⟩, ⟨(Nat.le_of_ble_eq_true rfl), (Nat.le_of_ble_eq_true rfl)⟩⟩ dX3_findSpan_75 (kcI fun z75_o w75_o hp => ?_)
              obtain ⟨rfl, rfl⟩ := hp
              refine k_istore (lv' := [(6, .int (iI (((nm - 10) * 10 + i_o) * 10 + j_o))), (0, .ref a_o), (1, .ref ag), (2, .int (iI i_o)), (3, .int (iI j_o)), (4, .int (iI nm)), (5, .int (iI ((s_o : Nat) : Int)))]) h_o dX3_findSpan_78 (by decide) rfl ?_
              refine k_iload h_o 0 dX3_findSpan_80 rfl ?_
              refine k_iflt h_o 104 (by omega) dX3_findSpan_82 (by decide) (fun h82_o => ?_) (fun h82_o => ?_)
              · exfalso; omega
              · refine k_iload h_o 0 dX3_findSpan_85 rfl ?_
                refine k_aload_n h_o 1 dX3_findSpan_87 rfl rfl ?_
                refine k_get h_o q_o kf_X3_15 hsp1.1 rfl dX3_findSpan_88 ?_
                refine k_alen h_o (q_o + 2) hsp1.2.2 rfl dX3_findSpan_91 ?_
                show kG E_o X_o 8 _ _ _ _ _ (.int (iI 500) :: _)
                refine k_icmp_ge h_o 104 (by omega) (by decide) dX3_findSpan_92 (by decide) (fun h92_o => ?_) (fun h92_o => ?_)
                · exfalso; omega
                · refine k_aload_n h_o 1 dX3_findSpan_95 rfl rfl ?_
                  refine k_get h_o q_o kf_X3_15 hsp1.1 rfl dX3_findSpan_96 ?_
                  refine k_iload h_o 0 dX3_findSpan_99 rfl ?_
                  refine k_iload h_o 6 dX3_findSpan_101 rfl ?_
                  refine k_iast h_o (q_o + 2) hsp1.2.2 (by omega) (by decide) dX3_findSpan_103 ?_
                  refine k_world (w' := (kset w_o (q_o + 2) na (kNm (kup N1 (((nm - 10) * 10 + i_o) * 10 + j_o).toNat s_o)))) (by rw [kset_kset, kup_cast]) ?_
                  refine k_iinc (lv' := [(4, .int (iI (nm + (-1)))), (6, .int (iI (((nm - 10) * 10 + i_o) * 10 + j_o))), (0, .ref a_o), (1, .ref ag), (2, .int (iI i_o)), (3, .int (iI j_o)), (5, .int (iI ((s_o : Nat) : Int)))]) h_o 5 dX3_findSpan_104 rfl (by decide) rfl ?_
                  refine k_goto h_o 4 dX3_findSpan_107 (by decide) ?_
                  refine k_sub (lv' := [(0, .ref a_o), (1, .ref ag), (2, .int (iI i_o)), (3, .int (iI j_o)), (4, .int (iI (nm + (-1))))]) [2, 3, 4, 5, 0] rfl ?_
                  exact ih4 (nm - 1) (kup N1 (((nm - 10) * 10 + i_o) * 10 + j_o).toNat s_o) (by omega) (kup_le hN1 hs1) (fun x_o q1 q2 => if e_o : x_o = nm then (by rw [e_o]; exact m_Cn_eq.trans htrue) else (m_Cn_ne (by omega) (by omega) (by omega) (by omega) (by omega) (by omega) (Or.inl e_o)).trans (hd x_o (by omega) q2)) (fun x_o i2 j2 q0 q1 q2 q3 q4 => (m_Cn_ne (by omega) (by omega) (by omega) (by omega) (by omega) (by omega) (by omega)).trans (hot x_o i2 j2 q0 q1 q2 q3 q4)) (by omega)
            · refine k_aload_n h_o 1 dX3_findSpan_26 rfl rfl ?_
              refine k_iload h_o 6 dX3_findSpan_27 rfl ?_
              refine k_callV (As := [.int (iI r_o)]) (rest := []) h_o mX0_liveRule kq_1_235 (c_X0_liveRule hl0 hgr1 hwf (by omega)) 1 hgr1.1 rfl rfl rfl (Nat.le_of_ble_eq_true rfl) ⟨rfl, rfl, ⟨(Nat.le_of_ble_eq_true rfl), (Nat.le_of_ble_eq_true rfl)⟩, ⟨(Nat.le_of_ble_eq_true rfl), (Nat.le_of_ble_eq_true rfl)⟩⟩ dX3_findSpan_29 (kcQ fun z29_o w29_o hp => ?_)
              obtain ⟨hp, rfl⟩ := hp
              rcases hp with ⟨hlv, ho⟩ | ⟨hlv, ho⟩
              · refine k_topQ ho ?_
                have hrw := (hwf r_o.toNat (by have := hlv.2.1; omega)).1
                have hrg1 := hrw.1
                refine k_astore (lv' := [(7, .ref (ra r_o.toNat)), (0, .ref a_o), (1, .ref ag), (2, .int (iI i_o)), (3, .int (iI j_o)), (4, .int (iI nm)), (5, .int (iI ((s_o : Nat) : Int))), (6, .int (iI r_o))]) h_o dX3_findSpan_32 (by decide) rfl ?_
                refine k_aload h_o 0 dX3_findSpan_34 rfl ?_
                refine k_ifnull h_o dX3_findSpan_36 ?_
                refine k_aload h_o 0 dX3_findSpan_39 rfl ?_
                refine k_get h_o (100 + r_o.toNat) kf_X3_76 (hgr1.2.2.1 r_o.toNat (by have := hlv.1; have := hlv.2.1; omega)) rfl dX3_findSpan_41 ?_
                refine k_iload h_o 5 dX3_findSpan_44 rfl ?_
                refine k_icmp_ne h_o 65 (by omega) (by omega) dX3_findSpan_46 (by decide) (fun h46_o => ?_) (fun h46_o => ?_)
                · refine k_iinc (lv' := [(6, .int (iI (r_o + 1))), (7, .ref (ra r_o.toNat)), (0, .ref a_o), (1, .ref ag), (2, .int (iI i_o)), (3, .int (iI j_o)), (4, .int (iI nm)), (5, .int (iI ((s_o : Nat) : Int)))]) h_o 7 dX3_findSpan_65 rfl (by decide) rfl ?_
                  refine k_goto h_o 17 dX3_findSpan_68 (by decide) ?_
                  refine k_sub (lv' := [(0, .ref a_o), (1, .ref ag), (2, .int (iI i_o)), (3, .int (iI j_o)), (4, .int (iI nm)), (5, .int (iI ((s_o : Nat) : Int))), (6, .int (iI (r_o + 1)))]) [2, 3, 4, 5, 6, 7, 0] rfl ?_
                  exact ih17 (r_o + 1) s_o (by omega) (by first | exact hs1 | exact m_cap_le _) (m_rs_stay hr2.1 hs2 (m_rs_dead (fun q_o => by have q1 := q_o.1; have q2 := q_o.2; first | exact hlv ⟨by omega, by omega, q1⟩ | omega))) (by omega)
                · refine k_iload h_o 6 dX3_findSpan_49 rfl ?_
                  refine k_aload_n h_o 1 dX3_findSpan_51 rfl rfl ?_
                  refine k_aload h_o 0 dX3_findSpan_52 rfl ?_
                  refine k_iload_n h_o 3 dX3_findSpan_54 rfl rfl ?_
                  refine k_iload_n h_o 4 dX3_findSpan_55 rfl rfl ?_
                  refine k_callV (As := [.ref (ra r_o.toNat), .int (iI i_o), .int (iI j_o)]) (rest := [.int (iI ((s_o : Nat) : Int))]) h_o mX3_treesByRule kq_1_236 (c_X3_treesByRule hl0 hsp1 hlt hN1 (hgr1.2.2.1 r_o.toNat (by have := hlv.1; have := hlv.2.1; omega)) hrw (by omega) (by omega)) q_o hsp1.1 rfl rfl rfl (Nat.le_of_ble_eq_true rfl) ⟨rfl, rfl, ⟨(Nat.le_of_ble_eq_true rfl), (Nat.le_of_ble_eq_true rfl)⟩, ⟨(Nat.le_of_ble_eq_true rfl), (Nat.le_of_ble_eq_true rfl)⟩⟩ dX3_findSpan_56 (kcI fun z56_o w56_o hp => ?_)
                  obtain ⟨rfl, rfl⟩ := hp
                  refine k_iadd h_o dX3_findSpan_59 ?_
                  refine k_callSN (As := [.int (iI (((s_o : Nat) : Int) + ((m_cap (m_by N1 lt_o (g_o 2 r_o.toNat) (g_o 3 r_o.toNat) (g_o 4 r_o.toNat) i_o j_o) : Nat) : Int)))]) (rest := []) h_o mX6_limited kq_2_0 (c_X6_limited hl0 (m_add_rg hs1 (m_cap_le _))) rfl rfl (Nat.le_of_ble_eq_true rfl) ⟨rfl, rfl, ⟨(Nat.le_of_ble_eq_true rfl), (Nat.le_of_ble_eq_true rfl)⟩, ⟨(Nat.le_of_ble_eq_true rfl), (Nat.le_of_ble_eq_true rfl)⟩⟩ dX3_findSpan_60 (kcI fun z60_o w60_o hp => ?_)
                  obtain ⟨rfl, rfl⟩ := hp
                  refine k_top (z' := ((m_cap (s_o + m_by N1 lt_o (g_o 2 r_o.toNat) (g_o 3 r_o.toNat) (g_o 4 r_o.toNat) i_o j_o) : Nat) : Int)) (by rw [← Int.natCast_add, m_lim_cap, m_cap_addr]) ?_
                  refine k_istore (lv' := [(5, .int (iI ((m_cap (s_o + m_by N1 lt_o (g_o 2 r_o.toNat) (g_o 3 r_o.toNat) (g_o 4 r_o.toNat) i_o j_o) : Nat) : Int))), (7, .ref (ra r_o.toNat)), (0, .ref a_o), (1, .ref ag), (2, .int (iI i_o)), (3, .int (iI j_o)), (4, .int (iI nm)), (6, .int (iI r_o))]) h_o dX3_findSpan_63 (by decide) rfl ?_
                  refine k_iinc (lv' := [(6, .int (iI (r_o + 1))), (5, .int (iI ((m_cap (s_o + m_by N1 lt_o (g_o 2 r_o.toNat) (g_o 3 r_o.toNat) (g_o 4 r_o.toNat) i_o j_o) : Nat) : Int))), (7, .ref (ra r_o.toNat)), (0, .ref a_o), (1, .ref ag), (2, .int (iI i_o)), (3, .int (iI j_o)), (4, .int (iI nm))]) h_o 7 dX3_findSpan_65 rfl (by decide) rfl ?_
                  refine k_goto h_o 17 dX3_findSpan_68 (by decide) ?_
                  refine k_sub (lv' := [(0, .ref a_o), (1, .ref ag), (2, .int (iI i_o)), (3, .int (iI j_o)), (4, .int (iI nm)), (5, .int (iI ((m_cap (s_o + m_by N1 lt_o (g_o 2 r_o.toNat) (g_o 3 r_o.toNat) (g_o 4 r_o.toNat) i_o j_o) : Nat) : Int))), (6, .int (iI (r_o + 1)))]) [3, 4, 5, 6, 7, 1, 0] rfl ?_
                  exact ih17 (r_o + 1) (m_cap (s_o + m_by N1 lt_o (g_o 2 r_o.toNat) (g_o 3 r_o.toNat) (g_o 4 r_o.toNat) i_o j_o)) (by omega) (by first | exact hs1 | exact m_cap_le _) (m_rs_step hr2.1 hs2 (by rw [m_rs_live ⟨hlv.2.2, by omega⟩, m_by_wy hrw.2.1 (by have := hrw.2.2; omega) hi_o.2])) (by omega)
              · refine k_topN ho ?_
                refine k_astoreN (lv' := [(7, .null), (0, .ref a_o), (1, .ref ag), (2, .int (iI i_o)), (3, .int (iI j_o)), (4, .int (iI nm)), (5, .int (iI ((s_o : Nat) : Int))), (6, .int (iI r_o))]) h_o dX3_findSpan_32 (by decide) rfl ?_
                refine k_aloadN h_o 0 dX3_findSpan_34 rfl ?_
                refine k_ifnullN h_o 65 dX3_findSpan_36 (by decide) ?_
                refine k_iinc (lv' := [(6, .int (iI (r_o + 1))), (7, .null), (0, .ref a_o), (1, .ref ag), (2, .int (iI i_o)), (3, .int (iI j_o)), (4, .int (iI nm)), (5, .int (iI ((s_o : Nat) : Int)))]) h_o 7 dX3_findSpan_65 rfl (by decide) rfl ?_
                refine k_goto h_o 17 dX3_findSpan_68 (by decide) ?_
                refine k_sub (lv' := [(0, .ref a_o), (1, .ref ag), (2, .int (iI i_o)), (3, .int (iI j_o)), (4, .int (iI nm)), (5, .int (iI ((s_o : Nat) : Int))), (6, .int (iI (r_o + 1)))]) [2, 3, 4, 5, 6, 7, 0] rfl ?_
                exact ih17 (r_o + 1) s_o (by omega) (by first | exact hs1 | exact m_cap_le _) (m_rs_stay hr2.1 hs2 (m_rs_dead (fun q_o => by have q1 := q_o.1; have q2 := q_o.2; first | exact hlv ⟨by omega, by omega, q1⟩ | omega))) (by omega)
        refine k_sub (lv' := [(0, .ref a_o), (1, .ref ag), (2, .int (iI i_o)), (3, .int (iI j_o)), (4, .int (iI nm)), (5, .int (iI 0)), (6, .int (iI 0))]) [2, 3, 4, 5, 6, 1, 0] rfl ?_
        exact L17 (((nr : Int) - 0 : Int).toNat + 1) 0 0 (by omega) (by omega) (by rfl) (by omega)
  refine k_world (w' := (kset w_o (q_o + 2) na (kNm N_o))) (kset_id hsp.2.2).symm ?_
  refine k_sub (lv' := [(0, .ref a_o), (1, .ref ag), (2, .int (iI i_o)), (3, .int (iI j_o)), (4, .int (iI 14))]) [1, 2, 3, 4, 0] rfl ?_
  exact L4 ((14 - 9 : Int).toNat + 1) 14 N_o (by omega) hN_o (fun s_o q1 q2 => by omega) (fun s_o i2 j2 _ _ _ _ _ => rfl) (by omega)

set_option maxHeartbeats 4000000 in
set_option maxRecDepth 100000 in
theorem c_X3_findAll {E_o : kE} {l_o : Launch} (hl0 : l_o.stackTraces = false) {w_o : kW} {q_o a_o la na : Nat} {lt_o : Nat → Int} {N_o : Nat → Nat} {c_o : Int} {ag ap nr : Nat} {ra : Nat → Nat} {g_o : Nat → Nat → Int} (hsp : kSp w_o q_o a_o la na lt_o N_o c_o) (hlt : kLt lt_o) (hN_o : ∀ x_o, N_o x_o ≤ 1000) (hgr : kGr w_o ag ap nr ra g_o) (hwf : kWf g_o nr) (hq : (4 ≤ q_o ∧ q_o + 2 < 100) ∨ 112 ≤ q_o) (hc_o : 1 ≤ c_o ∧ c_o ≤ 10) : kM E_o l_o yX3_findAll (.code yX3_findAll cX3_findAll 5 (some .int) :: kAL) { frames := 3, cells := 0, slots := 0, locals := 78 } 0 0 [.ref a_o, .ref ag] w_o (pI (fun z_o w2_o => c_o * (c_o + 1) / 2 = z_o ∧ ∃ N2 : Nat → Nat, kset w_o (q_o + 2) na (kNm N2) = w2_o ∧ (∀ x_o, N2 x_o ≤ 1000) ∧ (∀ s_o i_o j_o : Int, m_isN s_o → 0 ≤ i_o → i_o ≤ j_o → j_o < c_o → m_Cn N2 s_o i_o j_o = m_TT g_o nr lt_o s_o i_o j_o))) := by
  refine kM_of hl0 (by decide +kernel) (Nat.le_of_ble_eq_true rfl) ?_
  intro X_o hXl h_o hr hin
  subst hXl
  show kG E_o X_o 5 0 0 w_o 0 [(0, .ref a_o), (1, .ref ag)] []
  refine k_iconst h_o dX3_findAll_0 ?_
  refine k_istore_n (lv' := [(2, .int (iI 0)), (0, .ref a_o), (1, .ref ag)]) h_o dX3_findAll_1 rfl (by decide) rfl ?_
  refine k_iconst h_o dX3_findAll_2 ?_
  refine k_istore_n (lv' := [(3, .int (iI 1)), (2, .int (iI 0)), (0, .ref a_o), (1, .ref ag)]) h_o dX3_findAll_3 rfl (by decide) rfl ?_
  have L4 : ∀ (mm : Nat) (x_o : Int) (N1 : Nat → Nat), (1 ≤ x_o ∧ x_o ≤ c_o + 1) → (∀ x_o, N1 x_o ≤ 1000) → (∀ s_o i2 j2 : Int, m_isN s_o → 0 ≤ i2 → i2 ≤ j2 → j2 < c_o → j2 - i2 + 1 < x_o → m_Cn N1 s_o i2 j2 = m_TT g_o nr lt_o s_o i2 j2) → (c_o + 1 - x_o < (mm : Int)) → kG E_o X_o 5 0 0 (kset w_o (q_o + 2) na (kNm N1)) 4 [(0, .ref a_o), (1, .ref ag), (2, .int (iI (m_fa c_o (x_o - 1).toNat))), (3, .int (iI x_o))] [] := by
    intro mm
    induction mm with
    | zero =>
      intro x_o N1 hx hN1 hT hm_o
      exfalso; omega
    | succ mm ih4 =>
      intro x_o N1 hx hN1 hT hm_o
      have hsp1 : (kSp (kset w_o (q_o + 2) na (kNm N1)) q_o a_o la na lt_o N1 c_o) := hsp.num
      have hgr1 : (kGr (kset w_o (q_o + 2) na (kNm N1)) ag ap nr ra g_o) := hgr.ne (by omega) (by omega) (by omega)
      refine k_iload_n h_o 3 dX3_findAll_4 rfl rfl ?_
      refine k_aload_n h_o 0 dX3_findAll_5 rfl rfl ?_
      refine k_get h_o q_o kf_X3_18 hsp1.1 rfl dX3_findAll_6 ?_
      refine k_icmp_gt h_o 54 (by omega) (by omega) dX3_findAll_9 (by decide) (fun h9_o => ?_) (fun h9_o => ?_)
      · refine k_iload_n h_o 2 dX3_findAll_54 rfl rfl ?_
        exact k_iret h_o hr rfl (⟨_, rfl, (by rw [show x_o - 1 = c_o by omega]; exact (m_fa_eq (by omega)).symm), N1, rfl, hN1, fun s_o i2 j2 q0 q1 q2 q3 => hT s_o i2 j2 q0 q1 q2 q3 (by omega)⟩) (by omega) (by omega) dX3_findAll_55
      · refine k_iconst h_o dX3_findAll_12 ?_
        refine k_istore (lv' := [(4, .int (iI 0)), (0, .ref a_o), (1, .ref ag), (2, .int (iI (m_fa c_o (x_o - 1).toNat))), (3, .int (iI x_o))]) h_o dX3_findAll_13 (by decide) rfl ?_
        have L15 : ∀ (mm : Nat) (y_o : Int) (N3 : Nat → Nat), (0 ≤ y_o ∧ y_o ≤ c_o - x_o + 1) → (∀ x_o, N3 x_o ≤ 1000) → (∀ s_o i2 j2 : Int, m_isN s_o → 0 ≤ i2 → i2 ≤ j2 → j2 < c_o → (j2 - i2 + 1 < x_o ∨ (j2 - i2 + 1 = x_o ∧ i2 < y_o)) → m_Cn N3 s_o i2 j2 = m_TT g_o nr lt_o s_o i2 j2) → (c_o + 1 - y_o < (mm : Int)) → kG E_o X_o 5 0 0 (kset w_o (q_o + 2) na (kNm N3)) 15 [(0, .ref a_o), (1, .ref ag), (2, .int (iI (m_fa c_o (x_o - 1).toNat + y_o))), (3, .int (iI x_o)), (4, .int (iI y_o))] [] := by
          intro mm
          induction mm with
          | zero =>
            intro y_o N3 hy hN3 hT3 hm_o
            exfalso; omega
          | succ mm ih15 =>
            intro y_o N3 hy hN3 hT3 hm_o
            have hsp3 : (kSp (kset w_o (q_o + 2) na (kNm N3)) q_o a_o la na lt_o N3 c_o) := hsp.num
            have hgr3 : (kGr (kset w_o (q_o + 2) na (kNm N3)) ag ap nr ra g_o) := hgr.ne (by omega) (by omega) (by omega)
            refine k_iload h_o 4 dX3_findAll_15 rfl ?_
            refine k_iload_n h_o 3 dX3_findAll_17 rfl rfl ?_
            refine k_iadd h_o dX3_findAll_18 ?_
            refine k_aload_n h_o 0 dX3_findAll_19 rfl rfl ?_
            refine k_get h_o q_o kf_X3_18 hsp3.1 rfl dX3_findAll_20 ?_
            refine k_icmp_gt h_o 48 (by omega) (by omega) dX3_findAll_23 (by decide) (fun h23_o => ?_) (fun h23_o => ?_)
            · refine k_sub (lv' := [(0, .ref a_o), (1, .ref ag), (2, .int (iI (m_fa c_o (x_o - 1).toNat + y_o))), (3, .int (iI x_o))]) [0, 1, 2, 3] rfl ?_
              rw [show m_fa c_o (x_o - 1).toNat + y_o = m_fa c_o (x_o + 1 - 1).toNat by rw [show x_o + 1 - 1 = x_o by omega, m_fa_step (x := x_o) (by omega)]; omega]
              refine k_iinc (lv' := [(3, .int (iI (x_o + 1))), (0, .ref a_o), (1, .ref ag), (2, .int (iI (m_fa c_o (x_o + 1 - 1).toNat)))]) h_o 3 dX3_findAll_48 rfl (by decide) rfl ?_
              refine k_goto h_o 4 dX3_findAll_51 (by decide) ?_
              refine k_sub (lv' := [(0, .ref a_o), (1, .ref ag), (2, .int (iI (m_fa c_o (x_o + 1 - 1).toNat))), (3, .int (iI (x_o + 1)))]) [1, 2, 3, 0] rfl ?_
              exact ih4 (x_o + 1) N3 (by omega) hN3 (fun s_o i2 j2 q0 q1 q2 q3 q4 => hT3 s_o i2 j2 q0 q1 q2 q3 (by omega)) (by omega)
            · refine k_aload_n h_o 0 dX3_findAll_26 rfl rfl ?_
              refine k_aload_n h_o 1 dX3_findAll_27 rfl rfl ?_
              refine k_iload h_o 4 dX3_findAll_28 rfl ?_
              refine k_iload h_o 4 dX3_findAll_30 rfl ?_
              refine k_iload_n h_o 3 dX3_findAll_32 rfl rfl ?_
              refine k_iadd h_o dX3_findAll_33 ?_
              refine k_iconst h_o dX3_findAll_34 ?_
              refine k_isub h_o dX3_findAll_35 ?_
              refine k_callV (As := [.ref ag, .int (iI y_o), .int (iI ((y_o + x_o) - 1))]) (rest := []) h_o mX3_findSpan kq_1_231 (c_X3_findSpan hl0 hsp3 hlt hN3 hgr3 hwf hq (by omega) (by omega) (fun s_o i2 j2 q0 q1 q2 q3 q4 => hT3 s_o i2 j2 q0 (by omega) q2 (by omega) (by omega))) q_o hsp3.1 rfl rfl rfl (Nat.le_of_ble_eq_true rfl) ⟨rfl, rfl, ⟨(Nat.le_of_ble_eq_true rfl), (Nat.le_of_ble_eq_true rfl)⟩, ⟨(Nat.le_of_ble_eq_true rfl), (Nat.le_of_ble_eq_true rfl)⟩⟩ dX3_findAll_36 (kcV fun w36_o hp => ?_)
              obtain ⟨N2, rfl, hN2, hne, hol⟩ := hp
              refine k_world kset_kset ?_
              refine k_iinc (lv' := [(2, .int (iI (m_fa c_o (x_o - 1).toNat + y_o + 1))), (0, .ref a_o), (1, .ref ag), (3, .int (iI x_o)), (4, .int (iI y_o))]) h_o 2 dX3_findAll_39 rfl (by decide) rfl ?_
              refine k_iinc (lv' := [(4, .int (iI (y_o + 1))), (2, .int (iI (m_fa c_o (x_o - 1).toNat + y_o + 1))), (0, .ref a_o), (1, .ref ag), (3, .int (iI x_o))]) h_o 4 dX3_findAll_42 rfl (by decide) rfl ?_
              refine k_sub (lv' := [(0, .ref a_o), (1, .ref ag), (2, .int (iI (m_fa c_o (x_o - 1).toNat + y_o + 1))), (3, .int (iI x_o)), (4, .int (iI (y_o + 1)))]) [2, 3, 1, 4, 0] rfl ?_
              rw [show m_fa c_o (x_o - 1).toNat + y_o + 1 = m_fa c_o (x_o - 1).toNat + (y_o + 1) by omega]
              refine k_goto h_o 15 dX3_findAll_45 (by decide) ?_
              exact ih15 (y_o + 1) N2 (by omega) hN2 (fun s_o i2 j2 q0 q1 q2 q3 q4 => if e_o : i2 = y_o ∧ j2 = y_o + x_o - 1 then (by rw [e_o.1, e_o.2]; exact hne s_o q0) else (hol s_o i2 j2 q0 q1 q2 (by omega) (by omega)).trans (hT3 s_o i2 j2 q0 q1 q2 q3 (by omega))) (by omega)
        refine k_sub (lv' := [(0, .ref a_o), (1, .ref ag), (2, .int (iI (m_fa c_o (x_o - 1).toNat))), (3, .int (iI x_o)), (4, .int (iI 0))]) [1, 2, 3, 4, 0] rfl ?_
        rw [show m_fa c_o (x_o - 1).toNat = m_fa c_o (x_o - 1).toNat + 0 by omega]
        exact L15 ((c_o + 1 - 0 : Int).toNat + 1) 0 N1 (by omega) hN1 (fun s_o i2 j2 q0 q1 q2 q3 q4 => hT s_o i2 j2 q0 q1 q2 q3 (by omega)) (by omega)
  refine k_world (w' := (kset w_o (q_o + 2) na (kNm N_o))) (kset_id hsp.2.2).symm ?_
  refine k_sub (lv' := [(0, .ref a_o), (1, .ref ag), (2, .int (iI 0)), (3, .int (iI 1))]) [2, 3, 1, 0] rfl ?_
  exact L4 ((c_o + 1 - 1 : Int).toNat + 1) 1 N_o (by omega) hN_o (fun s_o i2 j2 _ _ _ _ _ => by omega) (by omega)
