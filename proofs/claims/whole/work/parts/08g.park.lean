set_option maxHeartbeats 400000 in
set_option maxRecDepth 100000 in
theorem c_X6_setRank {E_o : kE} {l_o : Launch} (hl0 : l_o.stackTraces = false) {w_o : kW} {ad : Nat → Nat} {nr : Nat} {g_o : Nat → Nat → Int} {T_o : Nat} {lts : Nat → Nat → Int} {cs : Nat → Int} {acs : Nat → Nat → Int} {ams : Nat → Int} {rel fnd : Int} {Ns : Nat → Nat → Nat} {x_o v_o : Int} (hst : kSu w_o ad nr g_o T_o lts cs acs ams rel fnd Ns) (hx : -2147483648 ≤ x_o ∧ x_o < 2147483648) (hv : -2147483648 ≤ v_o ∧ v_o < 2147483648) : kMX E_o l_o yX6_setRank (.code yX6_setRank cX6_setRank 5 (some .int) :: kAL) { frames := 7, cells := 2, slots := 12, locals := 103 } 2 12 [.ref (ad 0), .int (iI x_o), .int (iI v_o)] w_o (pI (fun z_o w2_o => g_o 5 x_o.toNat = z_o ∧ m_live g_o nr x_o ∧ (0 ≤ v_o ∧ v_o ≤ 9) ∧ kSv w_o w2_o ad nr (m_up g_o 5 x_o.toNat v_o) T_o lts cs acs ams rel fnd Ns)) (fun Ex w2_o => ((Ex = "java/util/NoSuchElementException" ∧ ¬ m_live g_o nr x_o) ∨ (Ex = "java/lang/IllegalArgumentException" ∧ m_live g_o nr x_o ∧ ¬ (0 ≤ v_o ∧ v_o ≤ 9))) ∧ kSv w_o w2_o ad nr g_o T_o lts cs acs ams rel fnd Ns) := by
  refine kMX_of hl0 (by decide +kernel) (Nat.le_of_ble_eq_true rfl) ?_
  intro X_o hXl h_o hr
  subst hXl
  obtain ⟨⟨hpo, hgr, hwf, hts, hsc, hlo, hto, htx, htj⟩, hT⟩ := id hst
  obtain ⟨ls, Nz, cz, hs4, hs5, hs6⟩ := hsc
  obtain ⟨O_o, sk, hly, hOi⟩ := hlo
  obtain ⟨ht15, kn, ht16⟩ := hto
  have hnr := hgr.2.2.2
  have hT6 := hts.2
  show kG E_o X_o 5 0 0 w_o 0 [(0, .ref (ad 0)), (1, .int (iI x_o)), (2, .int (iI v_o))] []
  refine k_aload_n h_o 0 dX6_setRank_0 rfl rfl ?_
  refine k_iload_n h_o 1 dX6_setRank_1 rfl rfl ?_
  refine k_callVX (As := [.int (iI x_o)]) (rest := []) h_o mX6_existingRule kq_2_232 (c_X6_existingRule hl0 hpo hgr hwf (by omega)) 0 hpo rfl rfl rfl (Nat.le_of_ble_eq_true rfl) ⟨rfl, rfl, ⟨(Nat.le_of_ble_eq_true rfl), (Nat.le_of_ble_eq_true rfl)⟩, ⟨(Nat.le_of_ble_eq_true rfl), (Nat.le_of_ble_eq_true rfl)⟩⟩ dX6_setRank_2 (fun Ex wx hx => k_out h_o hr (by obtain ⟨e1, e2, e3⟩ := hx; subst e3; exact ⟨Or.inl ⟨e1, e2⟩, hst, kEx.rfl⟩) (by decide) (by decide)) (kcR fun z2_o w2_o hp => ?_)
  obtain ⟨rfl, hlv, rfl⟩ := hp
  have hrx : x_o.toNat < nr := by have := hlv.1; have := hlv.2.1; omega
  have hwx := hwf x_o.toNat hrx
  refine k_astore_n (lv' := [(3, .ref (ad (100 + x_o.toNat))), (0, .ref (ad 0)), (1, .int (iI x_o)), (2, .int (iI v_o))]) h_o dX6_setRank_5 rfl (by decide) rfl ?_
  refine k_iload_n h_o 3 dX6_setRank_6 rfl rfl ?_
  refine k_iconst h_o dX6_setRank_7 ?_
  refine k_bipush h_o dX6_setRank_8 (by decide) ?_
  refine k_callS (As := [.int (iI v_o), .int (iI 0), .int (iI 9)]) (rest := []) h_o mX6_isWithin kq_3_19 (c_X6_isWithin hl0 (by omega) (by decide) (by decide)) rfl rfl (Nat.le_of_ble_eq_true rfl) ⟨rfl, rfl, ⟨(Nat.le_of_ble_eq_true rfl), (Nat.le_of_ble_eq_true rfl)⟩, ⟨(Nat.le_of_ble_eq_true rfl), (Nat.le_of_ble_eq_true rfl)⟩⟩ dX6_setRank_10 (kcI fun z10_o w10_o hp => ?_)
  obtain ⟨rfl, rfl⟩ := hp
  refine k_ifBne h_o 24 dX6_setRank_13 (by decide) (fun h13_o => ?_) (fun h13_o => ?_)
  · refine k_aload_n h_o 0 dX6_setRank_24 rfl rfl ?_
    refine k_get h_o (100 + x_o.toNat) kf_X6_99 (hgr.2.2.1 x_o.toNat hrx) rfl dX6_setRank_25 ?_
    refine k_istore (lv' := [(4, .int (iI (g_o 5 x_o.toNat))), (3, .ref (ad (100 + x_o.toNat))), (0, .ref (ad 0)), (1, .int (iI x_o)), (2, .int (iI v_o))]) h_o dX6_setRank_28 (by decide) rfl ?_
    refine k_aload_n h_o 1 dX6_setRank_30 rfl rfl ?_
    refine k_iload_n h_o 4 dX6_setRank_31 rfl rfl ?_
    refine k_put (fs' := [.int (iI ((x_o.toNat : Nat) : Int)), .int (iI (g_o 1 x_o.toNat)), .int (iI (g_o 2 x_o.toNat)), .int (iI (g_o 3 x_o.toNat)), .int (iI (g_o 4 x_o.toNat)), .int (iI v_o), .int (iI (g_o 6 x_o.toNat)), .int (iI (g_o 7 x_o.toNat)), .int (iI (g_o 8 x_o.toNat))]) h_o (100 + x_o.toNat) kf_X6_99 kt_X2_5 (hgr.2.2.1 x_o.toNat hrx) rfl rfl (Nat.le_of_ble_eq_true rfl) rfl dX6_setRank_32 ?_
    refine k_iload h_o 0 dX6_setRank_35 rfl ?_
    exact k_iret h_o hr.ret rfl (⟨_, rfl, rfl, hlv, h13_o, hst.rl hrx kRl_5 (Or.inl ⟨rfl, h13_o⟩), kEx.kset (Or.inr (by omega))⟩) (by omega) (by omega) dX6_setRank_37
  · exact k_throw0 (names := ["java/lang/RuntimeException", "java/lang/Exception"]) h_o hr (by decide +kernel) (by decide +kernel) kq_2_64 kq_1_10 kx1_IAE kx2_IAE kx3_IAE dX6_setRank_16 dX6_setRank_19 dX6_setRank_20 dX6_setRank_23 ⟨by decide, by decide, by decide, by decide⟩ (⟨Or.inr ⟨rfl, hlv, h13_o⟩, hst, kEx.rfl⟩) (by decide) (by decide)

set_option maxHeartbeats 400000 in
set_option maxRecDepth 100000 in
theorem c_X6_setStyle {E_o : kE} {l_o : Launch} (hl0 : l_o.stackTraces = false) {w_o : kW} {ad : Nat → Nat} {nr : Nat} {g_o : Nat → Nat → Int} {T_o : Nat} {lts : Nat → Nat → Int} {cs : Nat → Int} {acs : Nat → Nat → Int} {ams : Nat → Int} {rel fnd : Int} {Ns : Nat → Nat → Nat} {x_o u_o v_o : Int} (hst : kSu w_o ad nr g_o T_o lts cs acs ams rel fnd Ns) (hx : -2147483648 ≤ x_o ∧ x_o < 2147483648) (hu : -2147483648 ≤ u_o ∧ u_o < 2147483648) (hv : -2147483648 ≤ v_o ∧ v_o < 2147483648) : kMX E_o l_o yX6_setStyle (.code yX6_setStyle cX6_setStyle 6 (some .int) :: kAL) { frames := 7, cells := 2, slots := 12, locals := 103 } 2 12 [.ref (ad 0), .int (iI x_o), .int (iI u_o), .int (iI v_o)] w_o (pI (fun z_o w2_o => 10 * g_o 6 x_o.toNat + g_o 7 x_o.toNat = z_o ∧ m_live g_o nr x_o ∧ ((0 ≤ u_o ∧ u_o ≤ 9) ∧ 0 ≤ v_o ∧ v_o ≤ 3) ∧ kSv w_o w2_o ad nr (m_up (m_up g_o 6 x_o.toNat u_o) 7 x_o.toNat v_o) T_o lts cs acs ams rel fnd Ns)) (fun Ex w2_o => ((Ex = "java/util/NoSuchElementException" ∧ ¬ m_live g_o nr x_o) ∨ (Ex = "java/lang/IllegalArgumentException" ∧ m_live g_o nr x_o ∧ ¬ ((0 ≤ u_o ∧ u_o ≤ 9) ∧ 0 ≤ v_o ∧ v_o ≤ 3))) ∧ kSv w_o w2_o ad nr g_o T_o lts cs acs ams rel fnd Ns) := by
  refine kMX_of hl0 (by decide +kernel) (Nat.le_of_ble_eq_true rfl) ?_
  intro X_o hXl h_o hr
  subst hXl
  obtain ⟨⟨hpo, hgr, hwf, hts, hsc, hlo, hto, htx, htj⟩, hT⟩ := id hst
  obtain ⟨ls, Nz, cz, hs4, hs5, hs6⟩ := hsc
  obtain ⟨O_o, sk, hly, hOi⟩ := hlo
  obtain ⟨ht15, kn, ht16⟩ := hto
  have hnr := hgr.2.2.2
  have hT6 := hts.2
  show kG E_o X_o 6 0 0 w_o 0 [(0, .ref (ad 0)), (1, .int (iI x_o)), (2, .int (iI u_o)), (3, .int (iI v_o))] []
  refine k_aload_n h_o 0 dX6_setStyle_0 rfl rfl ?_
  refine k_iload_n h_o 1 dX6_setStyle_1 rfl rfl ?_
  refine k_callVX (As := [.int (iI x_o)]) (rest := []) h_o mX6_existingRule kq_2_232 (c_X6_existingRule hl0 hpo hgr hwf (by omega)) 0 hpo rfl rfl rfl (Nat.le_of_ble_eq_true rfl) ⟨rfl, rfl, ⟨(Nat.le_of_ble_eq_true rfl), (Nat.le_of_ble_eq_true rfl)⟩, ⟨(Nat.le_of_ble_eq_true rfl), (Nat.le_of_ble_eq_true rfl)⟩⟩ dX6_setStyle_2 (fun Ex wx hx => k_out h_o hr (by obtain ⟨e1, e2, e3⟩ := hx; subst e3; exact ⟨Or.inl ⟨e1, e2⟩, hst, kEx.rfl⟩) (by decide) (by decide)) (kcR fun z2_o w2_o hp => ?_)
  obtain ⟨rfl, hlv, rfl⟩ := hp
  have hrx : x_o.toNat < nr := by have := hlv.1; have := hlv.2.1; omega
  have hwx := hwf x_o.toNat hrx
  refine k_astore (lv' := [(4, .ref (ad (100 + x_o.toNat))), (0, .ref (ad 0)), (1, .int (iI x_o)), (2, .int (iI u_o)), (3, .int (iI v_o))]) h_o dX6_setStyle_5 (by decide) rfl ?_
  refine k_iload_n h_o 3 dX6_setStyle_7 rfl rfl ?_
  refine k_iconst h_o dX6_setStyle_8 ?_
  refine k_bipush h_o dX6_setStyle_9 (by decide) ?_
  refine k_callS (As := [.int (iI u_o), .int (iI 0), .int (iI 9)]) (rest := []) h_o mX6_isWithin kq_3_19 (c_X6_isWithin hl0 (by omega) (by decide) (by decide)) rfl rfl (Nat.le_of_ble_eq_true rfl) ⟨rfl, rfl, ⟨(Nat.le_of_ble_eq_true rfl), (Nat.le_of_ble_eq_true rfl)⟩, ⟨(Nat.le_of_ble_eq_true rfl), (Nat.le_of_ble_eq_true rfl)⟩⟩ dX6_setStyle_11 (kcI fun z11_o w11_o hp => ?_)
  obtain ⟨rfl, rfl⟩ := hp
  refine k_ifBeq h_o 26 dX6_setStyle_14 (by decide) (fun h14_o => ?_) (fun h14_o => ?_)
  · exact k_throw0 (names := ["java/lang/RuntimeException", "java/lang/Exception"]) h_o hr (by decide +kernel) (by decide +kernel) kq_2_64 kq_1_10 kx1_IAE kx2_IAE kx3_IAE dX6_setStyle_26 dX6_setStyle_29 dX6_setStyle_30 dX6_setStyle_33 ⟨by decide, by decide, by decide, by decide⟩ (⟨Or.inr ⟨rfl, hlv, (by omega)⟩, hst, kEx.rfl⟩) (by decide) (by decide)
  · refine k_iload_n h_o 4 dX6_setStyle_17 rfl rfl ?_
    refine k_iconst h_o dX6_setStyle_18 ?_
    refine k_iconst h_o dX6_setStyle_19 ?_
    refine k_callS (As := [.int (iI v_o), .int (iI 0), .int (iI 3)]) (rest := []) h_o mX6_isWithin kq_3_19 (c_X6_isWithin hl0 (by omega) (by decide) (by decide)) rfl rfl (Nat.le_of_ble_eq_true rfl) ⟨rfl, rfl, ⟨(Nat.le_of_ble_eq_true rfl), (Nat.le_of_ble_eq_true rfl)⟩, ⟨(Nat.le_of_ble_eq_true rfl), (Nat.le_of_ble_eq_true rfl)⟩⟩ dX6_setStyle_20 (kcI fun z20_o w20_o hp => ?_)
    obtain ⟨rfl, rfl⟩ := hp
    refine k_ifBne h_o 34 dX6_setStyle_23 (by decide) (fun h23_o => ?_) (fun h23_o => ?_)
    · refine k_bipush h_o dX6_setStyle_34 (by decide) ?_
      refine k_aload h_o 0 dX6_setStyle_36 rfl ?_
      refine k_get h_o (100 + x_o.toNat) kf_X6_102 (hgr.2.2.1 x_o.toNat hrx) rfl dX6_setStyle_38 ?_
      refine k_imul h_o dX6_setStyle_41 ?_
      refine k_aload h_o 0 dX6_setStyle_42 rfl ?_
      refine k_get h_o (100 + x_o.toNat) kf_X6_105 (hgr.2.2.1 x_o.toNat hrx) rfl dX6_setStyle_44 ?_
      refine k_iadd h_o dX6_setStyle_47 ?_
      refine k_istore (lv' := [(5, .int (iI ((10 * (g_o 6 x_o.toNat)) + (g_o 7 x_o.toNat)))), (4, .ref (ad (100 + x_o.toNat))), (0, .ref (ad 0)), (1, .int (iI x_o)), (2, .int (iI u_o)), (3, .int (iI v_o))]) h_o dX6_setStyle_48 (by decide) rfl ?_
      refine k_aload h_o 1 dX6_setStyle_50 rfl ?_
      refine k_iload_n h_o 4 dX6_setStyle_52 rfl rfl ?_
      refine k_put (fs' := [.int (iI ((x_o.toNat : Nat) : Int)), .int (iI (g_o 1 x_o.toNat)), .int (iI (g_o 2 x_o.toNat)), .int (iI (g_o 3 x_o.toNat)), .int (iI (g_o 4 x_o.toNat)), .int (iI (g_o 5 x_o.toNat)), .int (iI u_o), .int (iI (g_o 7 x_o.toNat)), .int (iI (g_o 8 x_o.toNat))]) h_o (100 + x_o.toNat) kf_X6_102 kt_X2_6 (hgr.2.2.1 x_o.toNat hrx) rfl rfl (Nat.le_of_ble_eq_true rfl) rfl dX6_setStyle_53 ?_
      refine k_aload h_o 1 dX6_setStyle_56 rfl ?_
      refine k_iload_n h_o 5 dX6_setStyle_58 rfl rfl ?_
      refine k_put (fs' := [.int (iI ((x_o.toNat : Nat) : Int)), .int (iI (g_o 1 x_o.toNat)), .int (iI (g_o 2 x_o.toNat)), .int (iI (g_o 3 x_o.toNat)), .int (iI (g_o 4 x_o.toNat)), .int (iI (g_o 5 x_o.toNat)), .int (iI u_o), .int (iI v_o), .int (iI (g_o 8 x_o.toNat))]) h_o (100 + x_o.toNat) kf_X6_105 kt_X2_7 kset_eq rfl rfl (Nat.le_of_ble_eq_true rfl) rfl dX6_setStyle_59 ?_
      refine k_iload h_o 0 dX6_setStyle_62 rfl ?_
      exact k_iret h_o hr.ret rfl (⟨_, rfl, rfl, hlv, ⟨h14_o, h23_o⟩, (hst.rl hrx kRl_6 (Or.inr (Or.inl ⟨rfl, h14_o⟩))).rl hrx kRl_67 (Or.inr (Or.inr ⟨rfl, h23_o⟩)), (kEx.trans (kEx.kset (Or.inr (by omega))) (kEx.kset (Or.inr (by omega))))⟩) (by omega) (by omega) dX6_setStyle_64
    · exact k_throw0 (names := ["java/lang/RuntimeException", "java/lang/Exception"]) h_o hr (by decide +kernel) (by decide +kernel) kq_2_64 kq_1_10 kx1_IAE kx2_IAE kx3_IAE dX6_setStyle_26 dX6_setStyle_29 dX6_setStyle_30 dX6_setStyle_33 ⟨by decide, by decide, by decide, by decide⟩ (⟨Or.inr ⟨rfl, hlv, (by omega)⟩, hst, kEx.rfl⟩) (by decide) (by decide)

set_option maxHeartbeats 400000 in
set_option maxRecDepth 100000 in
theorem c_X6_findTouchedBy {E_o : kE} {l_o : Launch} (hl0 : l_o.stackTraces = false) {w_o : kW} {ad : Nat → Nat} {nr : Nat} {g_o : Nat → Nat → Int} {T_o : Nat} {lts : Nat → Nat → Int} {cs : Nat → Int} {acs : Nat → Nat → Int} {ams : Nat → Int} {rel fnd : Int} {Ns : Nat → Nat → Nat} {r_o : Nat} (hst : kSt w_o ad nr g_o T_o lts cs acs ams rel fnd Ns) (hrr : r_o < nr) (hTn : ∀ t_o, t_o < T_o → ¬ m_has (lts t_o) (cs t_o) g_o r_o → kTr (Ns t_o) g_o nr (lts t_o) (cs t_o)) : kM E_o l_o yX6_findTouchedBy (.code yX6_findTouchedBy cX6_findTouchedBy 7 (some .int) :: kAL) { frames := 4, cells := 0, slots := 0, locals := 102 } 0 0 [.ref (ad 0), .ref (ad (100 + r_o))] w_o (pI (fun z_o w2_o => m_tc (fun t_o => t_o < T_o ∧ m_has (lts t_o) (cs t_o) g_o r_o) 6 = z_o ∧ ∃ Ns2 : Nat → Nat → Nat, kSv w_o w2_o ad nr g_o T_o lts cs acs ams rel (fnd + m_tf (fun t_o => t_o < T_o ∧ m_has (lts t_o) (cs t_o) g_o r_o) (fun t_o => cs t_o * (cs t_o + 1) / 2) 6) Ns2)) := by
  refine kM_of hl0 (by decide +kernel) (Nat.le_of_ble_eq_true rfl) ?_
  intro X_o hXl h_o hr hin
  subst hXl
  obtain ⟨hpo, hgr, hwf, hts, hsc, hlo, hto, htx, htj⟩ := id hst
  have hT6 := hts.2
  have hwr := (hwf r_o hrr).1
  show kG E_o X_o 7 0 0 w_o 0 [(0, .ref (ad 0)), (1, .ref (ad (100 + r_o)))] []
  have hst0 : kSt w_o ad nr g_o T_o lts cs acs ams rel (fnd + m_tf (fun t_o => t_o < T_o ∧ m_has (lts t_o) (cs t_o) g_o r_o) (fun t_o => cs t_o * (cs t_o + 1) / 2) (0 : Int).toNat) Ns := by show kSt w_o ad nr g_o T_o lts cs acs ams rel (fnd + 0) Ns; rw [Int.add_zero]; exact hst
  refine k_iconst h_o dX6_findTouchedBy_0 ?_
  refine k_istore_n (lv' := [(2, .int (iI 0)), (0, .ref (ad 0)), (1, .ref (ad (100 + r_o)))]) h_o dX6_findTouchedBy_1 rfl (by decide) rfl ?_
  refine k_aload_n h_o 1 dX6_findTouchedBy_2 rfl rfl ?_
  refine k_get h_o 0 kf_X6_18 hpo rfl dX6_findTouchedBy_3 ?_
  refine k_astore_n (lv' := [(3, .ref (ad 3)), (2, .int (iI 0)), (0, .ref (ad 0)), (1, .ref (ad (100 + r_o)))]) h_o dX6_findTouchedBy_6 rfl (by decide) rfl ?_
  refine k_aload_n h_o 0 dX6_findTouchedBy_7 rfl rfl ?_
  refine k_alen h_o 3 hts.1 rfl dX6_findTouchedBy_8 ?_
  show kG E_o X_o 7 _ _ _ _ _ (.int (iI 6) :: _)
  refine k_istore (lv' := [(4, .int (iI 6)), (3, .ref (ad 3)), (2, .int (iI 0)), (0, .ref (ad 0)), (1, .ref (ad (100 + r_o)))]) h_o dX6_findTouchedBy_9 (by decide) rfl ?_
  refine k_iconst h_o dX6_findTouchedBy_11 ?_
  refine k_istore (lv' := [(5, .int (iI 0)), (4, .int (iI 6)), (3, .ref (ad 3)), (2, .int (iI 0)), (0, .ref (ad 0)), (1, .ref (ad (100 + r_o)))]) h_o dX6_findTouchedBy_12 (by decide) rfl ?_
  have L14 : ∀ (mm : Nat) (y_o : Int) (w8_o : kW) (N8 : Nat → Nat → Nat), (0 ≤ y_o ∧ y_o ≤ 6) → (kSt w8_o ad nr g_o T_o lts cs acs ams rel (fnd + m_tf (fun t_o => t_o < T_o ∧ m_has (lts t_o) (cs t_o) g_o r_o) (fun t_o => cs t_o * (cs t_o + 1) / 2) y_o.toNat) N8) → (∀ t_o, t_o < T_o → (t_o < y_o.toNat ∨ ¬ (fun t_o => t_o < T_o ∧ m_has (lts t_o) (cs t_o) g_o r_o) t_o) → kTr (N8 t_o) g_o nr (lts t_o) (cs t_o)) → (kEx w_o w8_o kPk) → (6 - y_o < (mm : Int)) → kG E_o X_o 7 0 0 w8_o 14 [(0, .ref (ad 0)), (1, .ref (ad (100 + r_o))), (2, .int (iI (m_tc (fun t_o => t_o < T_o ∧ m_has (lts t_o) (cs t_o) g_o r_o) y_o.toNat))), (3, .ref (ad 3)), (4, .int (iI 6)), (5, .int (iI y_o))] [] := by
    intro mm
    induction mm with
    | zero =>
      intro y_o w8_o N8 hy hs8 ha8 hx8 hm_o
      exfalso; omega
    | succ mm ih14 =>
      intro y_o w8_o N8 hy hs8 ha8 hx8 hm_o
      obtain ⟨hpo8, hgr8, _, hts8, _, _, _, htx8, htj8⟩ := id hs8
      refine k_iload h_o 5 dX6_findTouchedBy_14 rfl ?_
      refine k_iload h_o 4 dX6_findTouchedBy_16 rfl ?_
      refine k_icmp_ge h_o 75 (by omega) (by decide) dX6_findTouchedBy_18 (by decide) (fun h18_o => ?_) (fun h18_o => ?_)
      · refine k_iload_n h_o 2 dX6_findTouchedBy_75 rfl rfl ?_
        exact k_iret h_o hr rfl (⟨_, rfl, (by rw [show y_o.toNat = 6 by omega]), N8, ⟨(by rw [show y_o.toNat = 6 by omega] at hs8; exact hs8), fun t_o ht => ha8 t_o ht (Or.inl (by omega))⟩, hx8⟩) (by omega) (by omega) dX6_findTouchedBy_76
      · refine k_aload_n h_o 3 dX6_findTouchedBy_21 rfl rfl ?_
        refine k_iload h_o 5 dX6_findTouchedBy_22 rfl ?_
        refine k_aald h_o 3 hts8.1 rfl (by omega) (by decide) dX6_findTouchedBy_24 ?_
        by_cases hxn : y_o < (T_o : Int)
        · refine k_topQ (a := ad (200 + 5 * y_o.toNat)) (if_pos (by omega)) ?_
          have hyT : y_o.toNat < T_o := by omega
          have hty := htj8 y_o.toNat hyT
          have hcy := hty.2.2.1
          refine k_astore (lv' := [(6, .ref (ad (200 + 5 * y_o.toNat))), (0, .ref (ad 0)), (1, .ref (ad (100 + r_o))), (2, .int (iI (m_tc (fun t_o => t_o < T_o ∧ m_has (lts t_o) (cs t_o) g_o r_o) y_o.toNat))), (3, .ref (ad 3)), (4, .int (iI 6)), (5, .int (iI y_o))]) h_o dX6_findTouchedBy_25 (by decide) rfl ?_
          refine k_aload h_o 0 dX6_findTouchedBy_27 rfl ?_
          refine k_ifnull h_o dX6_findTouchedBy_29 ?_
          refine k_aload h_o 0 dX6_findTouchedBy_32 rfl ?_
          refine k_get h_o (200 + 5 * y_o.toNat) kf_X6_117 (htx8 y_o.toNat hyT).1 rfl dX6_findTouchedBy_34 ?_
          refine k_aload_n h_o 2 dX6_findTouchedBy_37 rfl rfl ?_
          refine k_callV (As := [.ref (ad (100 + r_o))]) (rest := []) h_o mX3_hasLettersOf kq_2_215 (c_X3_hasLettersOf hl0 (htx8 y_o.toNat hyT).2.1 hty.1 (by omega) (hgr8.2.2.1 r_o hrr) hwr) (200 + 5 * y_o.toNat + 1) (htx8 y_o.toNat hyT).2.1.1 rfl rfl rfl (Nat.le_of_ble_eq_true rfl) ⟨rfl, rfl, ⟨(Nat.le_of_ble_eq_true rfl), (Nat.le_of_ble_eq_true rfl)⟩, ⟨(Nat.le_of_ble_eq_true rfl), (Nat.le_of_ble_eq_true rfl)⟩⟩ dX6_findTouchedBy_38 (kcI fun z38_o w38_o hp => ?_)
          obtain ⟨rfl, rfl⟩ := hp
          refine k_ifBeq h_o 69 dX6_findTouchedBy_41 (by decide) (fun h41_o => ?_) (fun h41_o => ?_)
          · refine k_iinc (lv' := [(5, .int (iI (y_o + 1))), (6, .ref (ad (200 + 5 * y_o.toNat))), (0, .ref (ad 0)), (1, .ref (ad (100 + r_o))), (2, .int (iI (m_tc (fun t_o => t_o < T_o ∧ m_has (lts t_o) (cs t_o) g_o r_o) y_o.toNat))), (3, .ref (ad 3)), (4, .int (iI 6))]) h_o 6 dX6_findTouchedBy_69 rfl (by decide) rfl ?_
            refine k_goto h_o 14 dX6_findTouchedBy_72 (by decide) ?_
            refine k_sub (lv' := [(0, .ref (ad 0)), (1, .ref (ad (100 + r_o))), (2, .int (iI (m_tc (fun t_o => t_o < T_o ∧ m_has (lts t_o) (cs t_o) g_o r_o) y_o.toNat))), (3, .ref (ad 3)), (4, .int (iI 6)), (5, .int (iI (y_o + 1)))]) [2, 3, 4, 5, 6, 0] rfl ?_
            rw [show (m_tc (fun t_o => t_o < T_o ∧ m_has (lts t_o) (cs t_o) g_o r_o) y_o.toNat : Int) = m_tc (fun t_o => t_o < T_o ∧ m_has (lts t_o) (cs t_o) g_o r_o) (y_o + 1).toNat from (m_tc_f (P := (fun t_o => t_o < T_o ∧ m_has (lts t_o) (cs t_o) g_o r_o)) hy.1 (fun q_o => h41_o q_o.2)).symm]
            exact ih14 (y_o + 1) w8_o N8 (by omega) (by rw [m_tf_f (P := (fun t_o => t_o < T_o ∧ m_has (lts t_o) (cs t_o) g_o r_o)) hy.1 (fun q_o => h41_o q_o.2)]; exact hs8) (fun t_o ht hz => ha8 t_o ht (by by_cases e_o : t_o = y_o.toNat; exact Or.inr (e_o ▸ (fun q_o => h41_o q_o.2)); rcases hz with hz | hz; exact Or.inl (by omega); exact Or.inr hz)) hx8 (by omega)
          · refine k_aload_n h_o 1 dX6_findTouchedBy_44 rfl rfl ?_
            refine k_dup h_o dX6_findTouchedBy_45 rfl ?_
            refine k_get h_o 0 kf_X6_50 hpo8 rfl dX6_findTouchedBy_46 ?_
            refine k_aload h_o 0 dX6_findTouchedBy_49 rfl ?_
            refine k_get h_o (200 + 5 * y_o.toNat) kf_X6_117 (htx8 y_o.toNat hyT).1 rfl dX6_findTouchedBy_51 ?_
            refine k_aload_n h_o 1 dX6_findTouchedBy_54 rfl rfl ?_
            refine k_get h_o 0 kf_X6_12 hpo8 rfl dX6_findTouchedBy_55 ?_
            refine k_callV (As := [.ref (ad 1)]) (rest := [.long (lI (fnd + m_tf (fun t_o => t_o < T_o ∧ m_has (lts t_o) (cs t_o) g_o r_o) (fun t_o => cs t_o * (cs t_o + 1) / 2) y_o.toNat)), .ref (ad 0)]) h_o mX3_findAll kq_1_227 (c_X3_findAll hl0 (htx8 y_o.toNat hyT).2.1 hty.1 hty.2.1 hgr8 hwf (by omega) hcy) (200 + 5 * y_o.toNat + 1) (htx8 y_o.toNat hyT).2.1.1 rfl rfl rfl (Nat.le_of_ble_eq_true rfl) ⟨rfl, rfl, ⟨(Nat.le_of_ble_eq_true rfl), (Nat.le_of_ble_eq_true rfl)⟩, ⟨(Nat.le_of_ble_eq_true rfl), (Nat.le_of_ble_eq_true rfl)⟩⟩ dX6_findTouchedBy_58 (kcI fun z58_o w58_o hp => ?_)
            obtain ⟨rfl, N2, rfl, hN2, hT2⟩ := hp
            refine k_i2l h_o (by have := m_c55 hcy; omega) dX6_findTouchedBy_61 ?_
            refine k_ladd h_o dX6_findTouchedBy_62 ?_
            refine k_topL (z' := fnd + m_tf (fun t_o => t_o < T_o ∧ m_has (lts t_o) (cs t_o) g_o r_o) (fun t_o => cs t_o * (cs t_o + 1) / 2) (y_o + 1).toNat) (by rw [m_tf_t (P := (fun t_o => t_o < T_o ∧ m_has (lts t_o) (cs t_o) g_o r_o)) (f := (fun t_o => cs t_o * (cs t_o + 1) / 2)) hy.1 ⟨hyT, h41_o⟩]; exact Int.add_assoc _ _ _) ?_
            refine k_put (fs' := [.ref (ad 1), .ref (ad 3), .ref (ad 4), .ref (ad 7), .ref (ad 15), .int (iI (T_o : Int)), .int (iI rel), .long (lI (fnd + m_tf (fun t_o => t_o < T_o ∧ m_has (lts t_o) (cs t_o) g_o r_o) (fun t_o => cs t_o * (cs t_o + 1) / 2) (y_o + 1).toNat))]) h_o 0 kf_X6_50 kt_X6_7 ((kset_ne (by omega)).trans hpo8) rfl rfl (Nat.le_of_ble_eq_true rfl) rfl dX6_findTouchedBy_63 ?_
            refine k_iinc (lv' := [(2, .int (iI (m_tc (fun t_o => t_o < T_o ∧ m_has (lts t_o) (cs t_o) g_o r_o) y_o.toNat + 1))), (6, .ref (ad (200 + 5 * y_o.toNat))), (0, .ref (ad 0)), (1, .ref (ad (100 + r_o))), (3, .ref (ad 3)), (4, .int (iI 6)), (5, .int (iI y_o))]) h_o 3 dX6_findTouchedBy_66 rfl (by decide) rfl ?_
            refine k_iinc (lv' := [(5, .int (iI (y_o + 1))), (2, .int (iI (m_tc (fun t_o => t_o < T_o ∧ m_has (lts t_o) (cs t_o) g_o r_o) y_o.toNat + 1))), (6, .ref (ad (200 + 5 * y_o.toNat))), (0, .ref (ad 0)), (1, .ref (ad (100 + r_o))), (3, .ref (ad 3)), (4, .int (iI 6))]) h_o 6 dX6_findTouchedBy_69 rfl (by decide) rfl ?_
            refine k_goto h_o 14 dX6_findTouchedBy_72 (by decide) ?_
            refine k_sub (lv' := [(0, .ref (ad 0)), (1, .ref (ad (100 + r_o))), (2, .int (iI (m_tc (fun t_o => t_o < T_o ∧ m_has (lts t_o) (cs t_o) g_o r_o) y_o.toNat + 1))), (3, .ref (ad 3)), (4, .int (iI 6)), (5, .int (iI (y_o + 1)))]) [3, 4, 1, 5, 6, 0] rfl ?_
            rw [show (m_tc (fun t_o => t_o < T_o ∧ m_has (lts t_o) (cs t_o) g_o r_o) y_o.toNat + 1 : Int) = m_tc (fun t_o => t_o < T_o ∧ m_has (lts t_o) (cs t_o) g_o r_o) (y_o + 1).toNat from (m_tc_t (P := (fun t_o => t_o < T_o ∧ m_has (lts t_o) (cs t_o) g_o r_o)) hy.1 ⟨hyT, h41_o⟩).symm]
            exact ih14 (y_o + 1) (kset (kset w8_o (200 + 5 * y_o.toNat + 3) (ad (200 + 5 * y_o.toNat + 3)) (ai 500 (fun x_o => ((N2 x_o : Nat) : Int)))) 0 (ad 0) (ob 8 [.ref (ad 1), .ref (ad 3), .ref (ad 4), .ref (ad 7), .ref (ad 15), .int (iI (T_o : Int)), .int (iI rel), .long (lI (fnd + m_tf (fun t_o => t_o < T_o ∧ m_has (lts t_o) (cs t_o) g_o r_o) (fun t_o => cs t_o * (cs t_o + 1) / 2) (y_o + 1).toNat))])) (kup N8 y_o.toNat N2) (by omega) ((hs8.nm hyT hN2).po kset_eq (kEx.kset rfl)) (fun t_o ht hz => by by_cases e_o : t_o = y_o.toNat; subst e_o; rw [kup_eq]; exact hT2; rw [kup_ne e_o]; exact ha8 t_o ht (by rcases hz with hz | hz; exact Or.inl (by omega); exact Or.inr hz)) (hx8.trans (kEx.trans (kEx.kset (Or.inr (by omega))) (kEx.kset (Or.inl (by decide))))) (by omega)
        · refine k_topN (if_neg (by omega)) ?_
          refine k_astoreN (lv' := [(6, .null), (0, .ref (ad 0)), (1, .ref (ad (100 + r_o))), (2, .int (iI (m_tc (fun t_o => t_o < T_o ∧ m_has (lts t_o) (cs t_o) g_o r_o) y_o.toNat))), (3, .ref (ad 3)), (4, .int (iI 6)), (5, .int (iI y_o))]) h_o dX6_findTouchedBy_25 (by decide) rfl ?_
          refine k_aloadN h_o 0 dX6_findTouchedBy_27 rfl ?_
          refine k_ifnullN h_o 69 dX6_findTouchedBy_29 (by decide) ?_
          refine k_iinc (lv' := [(5, .int (iI (y_o + 1))), (6, .null), (0, .ref (ad 0)), (1, .ref (ad (100 + r_o))), (2, .int (iI (m_tc (fun t_o => t_o < T_o ∧ m_has (lts t_o) (cs t_o) g_o r_o) y_o.toNat))), (3, .ref (ad 3)), (4, .int (iI 6))]) h_o 6 dX6_findTouchedBy_69 rfl (by decide) rfl ?_
          refine k_goto h_o 14 dX6_findTouchedBy_72 (by decide) ?_
          refine k_sub (lv' := [(0, .ref (ad 0)), (1, .ref (ad (100 + r_o))), (2, .int (iI (m_tc (fun t_o => t_o < T_o ∧ m_has (lts t_o) (cs t_o) g_o r_o) y_o.toNat))), (3, .ref (ad 3)), (4, .int (iI 6)), (5, .int (iI (y_o + 1)))]) [2, 3, 4, 5, 6, 0] rfl ?_
          rw [show (m_tc (fun t_o => t_o < T_o ∧ m_has (lts t_o) (cs t_o) g_o r_o) y_o.toNat : Int) = m_tc (fun t_o => t_o < T_o ∧ m_has (lts t_o) (cs t_o) g_o r_o) (y_o + 1).toNat from (m_tc_f (P := (fun t_o => t_o < T_o ∧ m_has (lts t_o) (cs t_o) g_o r_o)) hy.1 (fun q_o => by have := q_o.1; omega)).symm]
          exact ih14 (y_o + 1) w8_o N8 (by omega) (by rw [m_tf_f (P := (fun t_o => t_o < T_o ∧ m_has (lts t_o) (cs t_o) g_o r_o)) hy.1 (fun q_o => by have := q_o.1; omega)]; exact hs8) (fun t_o ht hz => ha8 t_o ht (by by_cases e_o : t_o = y_o.toNat; exact Or.inr (e_o ▸ (fun q_o => by have := q_o.1; omega)); rcases hz with hz | hz; exact Or.inl (by omega); exact Or.inr hz)) hx8 (by omega)
  refine k_sub (lv' := [(0, .ref (ad 0)), (1, .ref (ad (100 + r_o))), (2, .int (iI 0)), (3, .ref (ad 3)), (4, .int (iI 6)), (5, .int (iI 0))]) [4, 5, 3, 2, 1, 0] rfl ?_
  exact L14 ((6 - 0 : Int).toNat + 1) 0 w_o Ns (by omega) hst0 (fun t_o ht hz => hTn t_o ht (fun q_o => by rcases hz with hz | hz; exact absurd hz (by omega); exact hz ⟨ht, q_o⟩)) kEx.rfl (by omega)
