set_option maxHeartbeats 400000 in
set_option maxRecDepth 100000 in
theorem c_X6_cleanShare {E_o : kE} {l_o : Launch} (hl0 : l_o.stackTraces = false) {w_o : kW} {ad : Nat → Nat} {nr : Nat} {g_o : Nat → Nat → Int} {T_o : Nat} {lts : Nat → Nat → Int} {cs : Nat → Int} {acs : Nat → Nat → Int} {ams : Nat → Int} {rel fnd : Int} {Ns : Nat → Nat → Nat}  (hst : kSu w_o ad nr g_o T_o lts cs acs ams rel fnd Ns)  : kMX E_o l_o yX6_cleanShare (.code yX6_cleanShare cX6_cleanShare 1 (some .float) :: kAL) { frames := 6, cells := 1, slots := 6, locals := 152 } 1 6 [.ref (ad 0)] w_o (pF (fun z_o w2_o => FP.fdiv (FP.i2f (iI (m_tc (fun t_o => t_o < T_o ∧ m_fv g_o nr (lts t_o) (cs t_o) (acs t_o) (ams t_o) = 45) 6))) (FP.i2f (iI (T_o : Int))) = z_o ∧ T_o ≠ 0 ∧ kSv w_o w2_o ad nr g_o T_o lts cs acs ams rel fnd Ns)) (fun Ex w2_o => (Ex = "java/lang/ArithmeticException" ∧ T_o = 0) ∧ kSv w_o w2_o ad nr g_o T_o lts cs acs ams rel fnd Ns) := by
  refine kMX_of hl0 (by decide +kernel) (Nat.le_of_ble_eq_true rfl) ?_
  intro X_o hXl h_o hr
  subst hXl
  obtain ⟨⟨hpo, hgr, hwf, hts, hsc, hlo, hto, htx, htj⟩, hT⟩ := id hst
  obtain ⟨ls, Nz, cz, hs4, hs5, hs6⟩ := hsc
  obtain ⟨O_o, sk, hly, hOi⟩ := hlo
  obtain ⟨ht15, kn, ht16⟩ := hto
  have hnr := hgr.2.2.2
  have hT6 := hts.2
  show kG E_o X_o 1 0 0 w_o 0 [(0, .ref (ad 0))] []
  refine k_aload_n h_o 0 dX6_cleanShare_0 rfl rfl ?_
  refine k_get h_o 0 kf_X6_43 hpo rfl dX6_cleanShare_1 ?_
  refine k_ifne h_o 15 (by omega) dX6_cleanShare_4 (by decide) (fun h4_o => ?_) (fun h4_o => ?_)
  · refine k_aload_n h_o 0 dX6_cleanShare_15 rfl rfl ?_
    refine k_callV (As := []) (rest := []) h_o mX6_countClean kq_4_51 (c_X6_countClean hl0 hst) 0 hpo rfl rfl rfl (Nat.le_of_ble_eq_true rfl) ⟨rfl, rfl, ⟨(Nat.le_of_ble_eq_true rfl), (Nat.le_of_ble_eq_true rfl)⟩, ⟨(Nat.le_of_ble_eq_true rfl), (Nat.le_of_ble_eq_true rfl)⟩⟩ dX6_cleanShare_16 (kcI fun z16_o wC hp => ?_)
    obtain ⟨rfl, hstC, hexC⟩ := hp
    refine k_i2f h_o dX6_cleanShare_19 ?_
    refine k_aload_n h_o 0 dX6_cleanShare_20 rfl rfl ?_
    refine k_get h_o 0 kf_X6_43 hstC.1.1 rfl dX6_cleanShare_21 ?_
    refine k_i2f h_o dX6_cleanShare_24 ?_
    refine k_fdiv h_o (m_nf (by have := m_tc_rg (P := (fun t_o => t_o < T_o ∧ m_fv g_o nr (lts t_o) (cs t_o) (acs t_o) (ams t_o) = 45)) 6; omega) (by omega)) dX6_cleanShare_25 ?_
    exact k_fret h_o hr.ret (⟨_, rfl, rfl, (by omega), hstC, hexC⟩) (by omega) (by omega) dX6_cleanShare_26
  · exact k_throw0 (names := ["java/lang/RuntimeException", "java/lang/Exception"]) h_o hr (by decide +kernel) (by decide +kernel) kq_4_107 kq_1_21 kx1_ARE kx2_ARE kx3_ARE dX6_cleanShare_7 dX6_cleanShare_10 dX6_cleanShare_11 dX6_cleanShare_14 ⟨by decide, by decide, by decide, by decide⟩ (⟨⟨rfl, (by omega)⟩, hst, kEx.rfl⟩) (by decide) (by decide)

set_option maxHeartbeats 400000 in
set_option maxRecDepth 100000 in
theorem c_X6_meanTrees {E_o : kE} {l_o : Launch} (hl0 : l_o.stackTraces = false) {w_o : kW} {ad : Nat → Nat} {nr : Nat} {g_o : Nat → Nat → Int} {T_o : Nat} {lts : Nat → Nat → Int} {cs : Nat → Int} {acs : Nat → Nat → Int} {ams : Nat → Int} {rel fnd : Int} {Ns : Nat → Nat → Nat}  (hst : kSu w_o ad nr g_o T_o lts cs acs ams rel fnd Ns)  : kMX E_o l_o yX6_meanTrees (.code yX6_meanTrees cX6_meanTrees 6 (some .double) :: kAL) { frames := 6, cells := 1, slots := 6, locals := 81 } 1 6 [.ref (ad 0)] w_o (pD (fun z_o w2_o => FP.ddiv (FP.i2d (iI (m_tf (fun t_o => t_o < T_o) (fun t_o => ((m_TT g_o nr (lts t_o) 10 0 (cs t_o - 1) : Nat) : Int)) 6))) (FP.i2d (iI (T_o : Int))) = z_o ∧ T_o ≠ 0 ∧ kSv w_o w2_o ad nr g_o T_o lts cs acs ams rel fnd Ns)) (fun Ex w2_o => (Ex = "java/lang/ArithmeticException" ∧ T_o = 0) ∧ kSv w_o w2_o ad nr g_o T_o lts cs acs ams rel fnd Ns) := by
  refine kMX_of hl0 (by decide +kernel) (Nat.le_of_ble_eq_true rfl) ?_
  intro X_o hXl h_o hr
  subst hXl
  obtain ⟨⟨hpo, hgr, hwf, hts, hsc, hlo, hto, htx, htj⟩, hT⟩ := id hst
  obtain ⟨ls, Nz, cz, hs4, hs5, hs6⟩ := hsc
  obtain ⟨O_o, sk, hly, hOi⟩ := hlo
  obtain ⟨ht15, kn, ht16⟩ := hto
  have hnr := hgr.2.2.2
  have hT6 := hts.2
  show kG E_o X_o 6 0 0 w_o 0 [(0, .ref (ad 0))] []
  refine k_aload_n h_o 0 dX6_meanTrees_0 rfl rfl ?_
  refine k_get h_o 0 kf_X6_43 hpo rfl dX6_meanTrees_1 ?_
  refine k_ifne h_o 15 (by omega) dX6_meanTrees_4 (by decide) (fun h4_o => ?_) (fun h4_o => ?_)
  · refine k_iconst h_o dX6_meanTrees_15 ?_
    refine k_istore_n (lv' := [(1, .int (iI 0)), (0, .ref (ad 0))]) h_o dX6_meanTrees_16 rfl (by decide) rfl ?_
    refine k_aload_n h_o 1 dX6_meanTrees_17 rfl rfl ?_
    refine k_get h_o 0 kf_X6_18 hpo rfl dX6_meanTrees_18 ?_
    refine k_astore_n (lv' := [(2, .ref (ad 3)), (1, .int (iI 0)), (0, .ref (ad 0))]) h_o dX6_meanTrees_21 rfl (by decide) rfl ?_
    refine k_aload_n h_o 0 dX6_meanTrees_22 rfl rfl ?_
    refine k_alen h_o 3 hts.1 rfl dX6_meanTrees_23 ?_
    show kG E_o X_o 6 _ _ _ _ _ (.int (iI 6) :: _)
    refine k_istore_n (lv' := [(3, .int (iI 6)), (2, .ref (ad 3)), (1, .int (iI 0)), (0, .ref (ad 0))]) h_o dX6_meanTrees_24 rfl (by decide) rfl ?_
    refine k_iconst h_o dX6_meanTrees_25 ?_
    refine k_istore (lv' := [(4, .int (iI 0)), (3, .int (iI 6)), (2, .ref (ad 3)), (1, .int (iI 0)), (0, .ref (ad 0))]) h_o dX6_meanTrees_26 (by decide) rfl ?_
    have L28 : ∀ (mm : Nat) (y_o : Int), (0 ≤ y_o ∧ y_o ≤ 6) → (6 - y_o < (mm : Int)) → kG E_o X_o 6 0 0 w_o 28 [(0, .ref (ad 0)), (1, .int (iI (m_tf (fun t_o => t_o < T_o) (fun t_o => ((m_TT g_o nr (lts t_o) 10 0 (cs t_o - 1) : Nat) : Int)) y_o.toNat))), (2, .ref (ad 3)), (3, .int (iI 6)), (4, .int (iI y_o))] [] := by
      intro mm
      induction mm with
      | zero =>
        intro y_o hy hm_o
        exfalso; omega
      | succ mm ih28 =>
        intro y_o hy hm_o
        refine k_iload h_o 4 dX6_meanTrees_28 rfl ?_
        refine k_iload_n h_o 3 dX6_meanTrees_30 rfl rfl ?_
        refine k_icmp_ge h_o 62 (by omega) (by decide) dX6_meanTrees_31 (by decide) (fun h31_o => ?_) (fun h31_o => ?_)
        · refine k_iload_n h_o 1 dX6_meanTrees_62 rfl rfl ?_
          refine k_top (z' := m_tf (fun t_o => t_o < T_o) (fun t_o => ((m_TT g_o nr (lts t_o) 10 0 (cs t_o - 1) : Nat) : Int)) 6) (by rw [show y_o.toNat = 6 by omega]) ?_
          refine k_i2d h_o dX6_meanTrees_63 ?_
          refine k_aload_n h_o 0 dX6_meanTrees_64 rfl rfl ?_
          refine k_get h_o 0 kf_X6_43 hpo rfl dX6_meanTrees_65 ?_
          refine k_i2d h_o dX6_meanTrees_68 ?_
          refine k_ddiv h_o (m_nd64 (by have := m_tf_rg2 (P := (fun t_o => t_o < T_o)) (f := (fun t_o => ((m_TT g_o nr (lts t_o) 10 0 (cs t_o - 1) : Nat) : Int))) (fun k_o => m_TTi) 6; omega) (by omega)) dX6_meanTrees_69 ?_
          exact k_dret h_o hr.ret (⟨_, rfl, rfl, (by omega), hst, kEx.rfl⟩) (by omega) (by omega) dX6_meanTrees_70
        · refine k_aload_n h_o 2 dX6_meanTrees_34 rfl rfl ?_
          refine k_iload h_o 4 dX6_meanTrees_35 rfl ?_
          refine k_aald h_o 3 hts.1 rfl (by omega) (by decide) dX6_meanTrees_37 ?_
          by_cases hxn : y_o < (T_o : Int)
          · refine k_topQ (a := ad (200 + 5 * y_o.toNat)) (if_pos (by omega)) ?_
            have hyT : y_o.toNat < T_o := by omega
            have hty := htj y_o.toNat hyT
            refine k_astore (lv' := [(5, .ref (ad (200 + 5 * y_o.toNat))), (0, .ref (ad 0)), (1, .int (iI (m_tf (fun t_o => t_o < T_o) (fun t_o => ((m_TT g_o nr (lts t_o) 10 0 (cs t_o - 1) : Nat) : Int)) y_o.toNat))), (2, .ref (ad 3)), (3, .int (iI 6)), (4, .int (iI y_o))]) h_o dX6_meanTrees_38 (by decide) rfl ?_
            refine k_aload h_o 0 dX6_meanTrees_40 rfl ?_
            refine k_ifnull h_o dX6_meanTrees_42 ?_
            refine k_iload_n h_o 2 dX6_meanTrees_45 rfl rfl ?_
            refine k_aload h_o 0 dX6_meanTrees_46 rfl ?_
            refine k_get h_o (200 + 5 * y_o.toNat) kf_X6_117 (htx y_o.toNat hyT).1 rfl dX6_meanTrees_48 ?_
            refine k_callV (As := []) (rest := [.int (iI (m_tf (fun t_o => t_o < T_o) (fun t_o => ((m_TT g_o nr (lts t_o) 10 0 (cs t_o - 1) : Nat) : Int)) y_o.toNat))]) h_o mX3_treesOfAll kq_1_173 (c_X3_treesOfAll hl0 (htx y_o.toNat hyT).2.1 hty.1 hty.2.1 hty.2.2.1) (200 + 5 * y_o.toNat + 1) (htx y_o.toNat hyT).2.1.1 rfl rfl rfl (Nat.le_of_ble_eq_true rfl) ⟨rfl, rfl, ⟨(Nat.le_of_ble_eq_true rfl), (Nat.le_of_ble_eq_true rfl)⟩, ⟨(Nat.le_of_ble_eq_true rfl), (Nat.le_of_ble_eq_true rfl)⟩⟩ dX6_meanTrees_51 (kcI fun z51_o w51_o hp => ?_)
            obtain ⟨rfl, rfl⟩ := hp
            refine k_top (z' := ((m_TT g_o nr (lts y_o.toNat) 10 0 (cs y_o.toNat - 1) : Nat) : Int)) (kTr_all (hT y_o.toNat hyT) hty.2.2.1) ?_
            refine k_iadd h_o dX6_meanTrees_54 ?_
            refine k_istore_n (lv' := [(1, .int (iI ((m_tf (fun t_o => t_o < T_o) (fun t_o => ((m_TT g_o nr (lts t_o) 10 0 (cs t_o - 1) : Nat) : Int)) y_o.toNat) + ((m_TT g_o nr (lts y_o.toNat) 10 0 (cs y_o.toNat - 1) : Nat) : Int)))), (5, .ref (ad (200 + 5 * y_o.toNat))), (0, .ref (ad 0)), (2, .ref (ad 3)), (3, .int (iI 6)), (4, .int (iI y_o))]) h_o dX6_meanTrees_55 rfl (by decide) rfl ?_
            refine k_iinc (lv' := [(4, .int (iI (y_o + 1))), (1, .int (iI ((m_tf (fun t_o => t_o < T_o) (fun t_o => ((m_TT g_o nr (lts t_o) 10 0 (cs t_o - 1) : Nat) : Int)) y_o.toNat) + ((m_TT g_o nr (lts y_o.toNat) 10 0 (cs y_o.toNat - 1) : Nat) : Int)))), (5, .ref (ad (200 + 5 * y_o.toNat))), (0, .ref (ad 0)), (2, .ref (ad 3)), (3, .int (iI 6))]) h_o 5 dX6_meanTrees_56 rfl (by decide) rfl ?_
            refine k_goto h_o 28 dX6_meanTrees_59 (by decide) ?_
            refine k_sub (lv' := [(0, .ref (ad 0)), (1, .int (iI ((m_tf (fun t_o => t_o < T_o) (fun t_o => ((m_TT g_o nr (lts t_o) 10 0 (cs t_o - 1) : Nat) : Int)) y_o.toNat) + ((m_TT g_o nr (lts y_o.toNat) 10 0 (cs y_o.toNat - 1) : Nat) : Int)))), (2, .ref (ad 3)), (3, .int (iI 6)), (4, .int (iI (y_o + 1)))]) [3, 1, 4, 5, 0] rfl ?_
            rw [show ((m_tf (fun t_o => t_o < T_o) (fun t_o => ((m_TT g_o nr (lts t_o) 10 0 (cs t_o - 1) : Nat) : Int)) y_o.toNat) + ((m_TT g_o nr (lts y_o.toNat) 10 0 (cs y_o.toNat - 1) : Nat) : Int) : Int) = m_tf (fun t_o => t_o < T_o) (fun t_o => ((m_TT g_o nr (lts t_o) 10 0 (cs t_o - 1) : Nat) : Int)) (y_o + 1).toNat from (m_tf_t (P := (fun t_o => t_o < T_o)) (f := (fun t_o => ((m_TT g_o nr (lts t_o) 10 0 (cs t_o - 1) : Nat) : Int))) hy.1 hyT).symm]
            exact ih28 (y_o + 1) (by omega) (by omega)
          · refine k_topN (if_neg (by omega)) ?_
            refine k_astoreN (lv' := [(5, .null), (0, .ref (ad 0)), (1, .int (iI (m_tf (fun t_o => t_o < T_o) (fun t_o => ((m_TT g_o nr (lts t_o) 10 0 (cs t_o - 1) : Nat) : Int)) y_o.toNat))), (2, .ref (ad 3)), (3, .int (iI 6)), (4, .int (iI y_o))]) h_o dX6_meanTrees_38 (by decide) rfl ?_
            refine k_aloadN h_o 0 dX6_meanTrees_40 rfl ?_
            refine k_ifnullN h_o 56 dX6_meanTrees_42 (by decide) ?_
            refine k_iinc (lv' := [(4, .int (iI (y_o + 1))), (5, .null), (0, .ref (ad 0)), (1, .int (iI (m_tf (fun t_o => t_o < T_o) (fun t_o => ((m_TT g_o nr (lts t_o) 10 0 (cs t_o - 1) : Nat) : Int)) y_o.toNat))), (2, .ref (ad 3)), (3, .int (iI 6))]) h_o 5 dX6_meanTrees_56 rfl (by decide) rfl ?_
            refine k_goto h_o 28 dX6_meanTrees_59 (by decide) ?_
            refine k_sub (lv' := [(0, .ref (ad 0)), (1, .int (iI (m_tf (fun t_o => t_o < T_o) (fun t_o => ((m_TT g_o nr (lts t_o) 10 0 (cs t_o - 1) : Nat) : Int)) y_o.toNat))), (2, .ref (ad 3)), (3, .int (iI 6)), (4, .int (iI (y_o + 1)))]) [2, 3, 4, 5, 0] rfl ?_
            rw [show (m_tf (fun t_o => t_o < T_o) (fun t_o => ((m_TT g_o nr (lts t_o) 10 0 (cs t_o - 1) : Nat) : Int)) y_o.toNat : Int) = m_tf (fun t_o => t_o < T_o) (fun t_o => ((m_TT g_o nr (lts t_o) 10 0 (cs t_o - 1) : Nat) : Int)) (y_o + 1).toNat from (m_tf_f (P := (fun t_o => t_o < T_o)) (f := (fun t_o => ((m_TT g_o nr (lts t_o) 10 0 (cs t_o - 1) : Nat) : Int))) hy.1 (by omega)).symm]
            exact ih28 (y_o + 1) (by omega) (by omega)
    refine k_sub (lv' := [(0, .ref (ad 0)), (1, .int (iI 0)), (2, .ref (ad 3)), (3, .int (iI 6)), (4, .int (iI 0))]) [4, 3, 2, 1, 0] rfl ?_
    exact L28 ((6 - 0 : Int).toNat + 1) 0 (by omega) (by omega)
  · exact k_throw0 (names := ["java/lang/RuntimeException", "java/lang/Exception"]) h_o hr (by decide +kernel) (by decide +kernel) kq_4_107 kq_1_21 kx1_ARE kx2_ARE kx3_ARE dX6_meanTrees_7 dX6_meanTrees_10 dX6_meanTrees_11 dX6_meanTrees_14 ⟨by decide, by decide, by decide, by decide⟩ (⟨⟨rfl, (by omega)⟩, hst, kEx.rfl⟩) (by decide) (by decide)
