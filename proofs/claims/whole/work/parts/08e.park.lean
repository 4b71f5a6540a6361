set_option maxHeartbeats 400000 in
set_option maxRecDepth 100000 in
theorem c_X6_layOut {E_o : kE} {l_o : Launch} (hl0 : l_o.stackTraces = false) {w_o : kW} {ad : Nat → Nat} {nr : Nat} {g_o : Nat → Nat → Int} {T_o : Nat} {lts : Nat → Nat → Int} {cs : Nat → Int} {acs : Nat → Nat → Int} {ams : Nat → Int} {rel fnd : Int} {Ns : Nat → Nat → Nat} {x_o : Int} (hst : kSu w_o ad nr g_o T_o lts cs acs ams rel fnd Ns) (hx : -2147483648 ≤ x_o ∧ x_o < 2147483648) : kMX E_o l_o yX6_layOut (.code yX6_layOut cX6_layOut 2 none :: kAL) { frames := 7, cells := 1, slots := 6, locals := 105 } 1 6 [.ref (ad 0), .int (iI x_o)] w_o (pV (fun w2_o => (0 ≤ x_o ∧ x_o < (T_o : Int)) ∧ (∃ (O_o : kO) (sk : Nat → Nat → Int), kLy w2_o (fun k_o => ad (7 + k_o)) (m_lay g_o nr (lts x_o.toNat) (cs x_o.toNat) O_o) sk 0 ∧ kOi O_o ∧ kEx w_o w2_o kLk) ∧ kSv w_o w2_o ad nr g_o T_o lts cs acs ams rel fnd Ns)) (fun Ex w2_o => (Ex = "java/lang/IndexOutOfBoundsException" ∧ ¬ (0 ≤ x_o ∧ x_o < (T_o : Int))) ∧ kSv w_o w2_o ad nr g_o T_o lts cs acs ams rel fnd Ns) := by
  refine kMX_of hl0 (by decide +kernel) (Nat.le_of_ble_eq_true rfl) ?_
  intro X_o hXl h_o hr
  subst hXl
  obtain ⟨⟨hpo, hgr, hwf, hts, hsc, hlo, hto, htx, htj⟩, hT⟩ := id hst
  obtain ⟨ls, Nz, cz, hs4, hs5, hs6⟩ := hsc
  obtain ⟨O_o, sk, hly, hOi⟩ := hlo
  obtain ⟨ht15, kn, ht16⟩ := hto
  have hnr := hgr.2.2.2
  have hT6 := hts.2
  show kG E_o X_o 2 0 0 w_o 0 [(0, .ref (ad 0)), (1, .int (iI x_o))] []
  refine k_aload_n h_o 0 dX6_layOut_0 rfl rfl ?_
  refine k_get h_o 0 kf_X6_32 hpo rfl dX6_layOut_1 ?_
  refine k_aload_n h_o 0 dX6_layOut_4 rfl rfl ?_
  refine k_get h_o 0 kf_X6_12 hpo rfl dX6_layOut_5 ?_
  refine k_aload_n h_o 0 dX6_layOut_8 rfl rfl ?_
  refine k_iload_n h_o 1 dX6_layOut_9 rfl rfl ?_
  refine k_callVX (As := [.int (iI x_o)]) (rest := [.ref (ad 1), .ref (ad 7)]) h_o mX6_existingText kq_3_110 (c_X6_existingText hl0 hpo hts (by omega)) 0 hpo rfl rfl rfl (Nat.le_of_ble_eq_true rfl) ⟨rfl, rfl, ⟨(Nat.le_of_ble_eq_true rfl), (Nat.le_of_ble_eq_true rfl)⟩, ⟨(Nat.le_of_ble_eq_true rfl), (Nat.le_of_ble_eq_true rfl)⟩⟩ dX6_layOut_10 (fun Ex wx hx => k_out h_o hr (by obtain ⟨e1, e2, e3⟩ := hx; subst e3; exact ⟨⟨e1, e2⟩, hst, kEx.rfl⟩) (by decide) (by decide)) (kcR fun z10_o w10_o hp => ?_)
  obtain ⟨rfl, hxT, rfl⟩ := hp
  have htxx := htx x_o.toNat (by omega)
  have htjx := htj x_o.toNat (by omega)
  have hTx := hT x_o.toNat (by omega)
  have hcx := htjx.2.2.1
  refine k_get h_o (200 + 5 * x_o.toNat) kf_X6_117 htxx.1 rfl dX6_layOut_13 ?_
  refine k_callV (As := [.ref (ad 1), .ref (ad (200 + 5 * x_o.toNat + 1))]) (rest := []) h_o mX1_lay kq_2_6 (c_X1_lay hl0 hly htxx.2.1 htjx.1 htjx.2.1 hgr hwf (by omega) hTx hcx hOi) 7 hly.1 rfl rfl rfl (Nat.le_of_ble_eq_true rfl) ⟨rfl, rfl, ⟨(Nat.le_of_ble_eq_true rfl), (Nat.le_of_ble_eq_true rfl)⟩, ⟨(Nat.le_of_ble_eq_true rfl), (Nat.le_of_ble_eq_true rfl)⟩⟩ dX6_layOut_16 (kcV fun wq15 hp => ?_)
  obtain ⟨skq15, hlyq15, hexq15⟩ := hp
  have hOi2 := kOi_lay (lt := lts x_o.toNat) hwf hnr hcx hOi
  have hOc := m_lay_cnt (lt := lts x_o.toNat) (O := O_o) hwf hcx
  have hOl := m_lay_lc (lt := lts x_o.toNat) (O := O_o) hwf hcx
  exact k_vret h_o hr.ret (⟨rfl, hxT, ⟨O_o, _, hlyq15, hOi, hexq15⟩, ⟨hst.1.ly hlyq15 hOi2 hexq15, hst.2⟩, (kEx.trans kEx.rfl (hexq15.sub kLk_Pk))⟩) (by omega) (by omega) dX6_layOut_19

set_option maxHeartbeats 400000 in
set_option maxRecDepth 100000 in
theorem c_X6_size {E_o : kE} {l_o : Launch} (hl0 : l_o.stackTraces = false) {w_o : kW} {ad : Nat → Nat} {nr : Nat} {g_o : Nat → Nat → Int} {T_o : Nat} {lts : Nat → Nat → Int} {cs : Nat → Int} {acs : Nat → Nat → Int} {ams : Nat → Int} {rel fnd : Int} {Ns : Nat → Nat → Nat} {x_o : Int} (hst : kSu w_o ad nr g_o T_o lts cs acs ams rel fnd Ns) (hx : -2147483648 ≤ x_o ∧ x_o < 2147483648) : kMX E_o l_o yX6_size (.code yX6_size cX6_size 2 (some .int) :: kAL) { frames := 8, cells := 1, slots := 6, locals := 126 } 1 6 [.ref (ad 0), .int (iI x_o)] w_o (pI (fun z_o w2_o => (∃ O_o : kO, kOi O_o ∧ (m_lay g_o nr (lts x_o.toNat) (cs x_o.toNat) O_o).1 = z_o) ∧ (0 ≤ x_o ∧ x_o < (T_o : Int)) ∧ kSv w_o w2_o ad nr g_o T_o lts cs acs ams rel fnd Ns)) (fun Ex w2_o => (Ex = "java/lang/IndexOutOfBoundsException" ∧ ¬ (0 ≤ x_o ∧ x_o < (T_o : Int))) ∧ kSv w_o w2_o ad nr g_o T_o lts cs acs ams rel fnd Ns) := by
  refine kMX_of hl0 (by decide +kernel) (Nat.le_of_ble_eq_true rfl) ?_
  intro X_o hXl h_o hr
  subst hXl
  obtain ⟨⟨hpo, hgr, hwf, hts, hsc, hlo, hto, htx, htj⟩, hT⟩ := id hst
  obtain ⟨ls, Nz, cz, hs4, hs5, hs6⟩ := hsc
  obtain ⟨O_o, sk, hly, hOi⟩ := hlo
  obtain ⟨ht15, kn, ht16⟩ := hto
  have hnr := hgr.2.2.2
  have hT6 := hts.2
  show kG E_o X_o 2 0 0 w_o 0 [(0, .ref (ad 0)), (1, .int (iI x_o))] []
  refine k_aload_n h_o 0 dX6_size_0 rfl rfl ?_
  refine k_iload_n h_o 1 dX6_size_1 rfl rfl ?_
  refine k_callVX (As := [.int (iI x_o)]) (rest := []) h_o mX6_layOut kq_3_200 (c_X6_layOut hl0 hst (by omega)) 0 hpo rfl rfl rfl (Nat.le_of_ble_eq_true rfl) ⟨rfl, rfl, ⟨(Nat.le_of_ble_eq_true rfl), (Nat.le_of_ble_eq_true rfl)⟩, ⟨(Nat.le_of_ble_eq_true rfl), (Nat.le_of_ble_eq_true rfl)⟩⟩ dX6_size_2 (fun Ex wx hx => k_out h_o hr (by obtain ⟨e1, e2⟩ := hx; exact ⟨e1, e2⟩) (by decide) (by decide)) (kcV fun wq16 hp => ?_)
  obtain ⟨hxT, ⟨Oq, skq16, hlyq16, hOiq, hexq16⟩, hstq16, hexp16⟩ := hp
  have htxx := htx x_o.toNat (by omega)
  have htjx := htj x_o.toNat (by omega)
  have hcx := htjx.2.2.1
  have hOi2 := kOi_lay (lt := lts x_o.toNat) hwf hnr hcx hOiq
  have hOc := m_lay_cnt (lt := lts x_o.toNat) (O := Oq) hwf hcx
  have hOl := m_lay_lc (lt := lts x_o.toNat) (O := Oq) hwf hcx
  refine k_aload_n h_o 0 dX6_size_5 rfl rfl ?_
  refine k_get h_o 0 kf_X6_32 ((hexq16 0 (by show ¬ (7 ≤ 0 ∧ 0 ≤ 14); omega)).trans hpo) rfl dX6_size_6 ?_
  refine k_get h_o 7 kf_X6_165 hlyq16.1 rfl dX6_size_9 ?_
  exact k_iret h_o hr.ret rfl (⟨_, rfl, ⟨Oq, hOiq, rfl⟩, hxT, hstq16, hexp16⟩) (by omega) (by omega) dX6_size_12

set_option maxHeartbeats 400000 in
set_option maxRecDepth 100000 in
theorem c_X6_depth {E_o : kE} {l_o : Launch} (hl0 : l_o.stackTraces = false) {w_o : kW} {ad : Nat → Nat} {nr : Nat} {g_o : Nat → Nat → Int} {T_o : Nat} {lts : Nat → Nat → Int} {cs : Nat → Int} {acs : Nat → Nat → Int} {ams : Nat → Int} {rel fnd : Int} {Ns : Nat → Nat → Nat} {x_o : Int} (hst : kSu w_o ad nr g_o T_o lts cs acs ams rel fnd Ns) (hx : -2147483648 ≤ x_o ∧ x_o < 2147483648) : kMX E_o l_o yX6_depth (.code yX6_depth cX6_depth 2 (some .int) :: kAL) { frames := 8, cells := 1, slots := 6, locals := 126 } 1 6 [.ref (ad 0), .int (iI x_o)] w_o (pI (fun z_o w2_o => (∃ O_o : kO, kOi O_o ∧ (m_lay g_o nr (lts x_o.toNat) (cs x_o.toNat) O_o).2.2.2.2.1 = z_o) ∧ (0 ≤ x_o ∧ x_o < (T_o : Int)) ∧ kSv w_o w2_o ad nr g_o T_o lts cs acs ams rel fnd Ns)) (fun Ex w2_o => (Ex = "java/lang/IndexOutOfBoundsException" ∧ ¬ (0 ≤ x_o ∧ x_o < (T_o : Int))) ∧ kSv w_o w2_o ad nr g_o T_o lts cs acs ams rel fnd Ns) := by
  refine kMX_of hl0 (by decide +kernel) (Nat.le_of_ble_eq_true rfl) ?_
  intro X_o hXl h_o hr
  subst hXl
  obtain ⟨⟨hpo, hgr, hwf, hts, hsc, hlo, hto, htx, htj⟩, hT⟩ := id hst
  obtain ⟨ls, Nz, cz, hs4, hs5, hs6⟩ := hsc
  obtain ⟨O_o, sk, hly, hOi⟩ := hlo
  obtain ⟨ht15, kn, ht16⟩ := hto
  have hnr := hgr.2.2.2
  have hT6 := hts.2
  show kG E_o X_o 2 0 0 w_o 0 [(0, .ref (ad 0)), (1, .int (iI x_o))] []
  refine k_aload_n h_o 0 dX6_depth_0 rfl rfl ?_
  refine k_iload_n h_o 1 dX6_depth_1 rfl rfl ?_
  refine k_callVX (As := [.int (iI x_o)]) (rest := []) h_o mX6_layOut kq_3_200 (c_X6_layOut hl0 hst (by omega)) 0 hpo rfl rfl rfl (Nat.le_of_ble_eq_true rfl) ⟨rfl, rfl, ⟨(Nat.le_of_ble_eq_true rfl), (Nat.le_of_ble_eq_true rfl)⟩, ⟨(Nat.le_of_ble_eq_true rfl), (Nat.le_of_ble_eq_true rfl)⟩⟩ dX6_depth_2 (fun Ex wx hx => k_out h_o hr (by obtain ⟨e1, e2⟩ := hx; exact ⟨e1, e2⟩) (by decide) (by decide)) (kcV fun wq17 hp => ?_)
  obtain ⟨hxT, ⟨Oq, skq17, hlyq17, hOiq, hexq17⟩, hstq17, hexp17⟩ := hp
  have htxx := htx x_o.toNat (by omega)
  have htjx := htj x_o.toNat (by omega)
  have hcx := htjx.2.2.1
  have hOi2 := kOi_lay (lt := lts x_o.toNat) hwf hnr hcx hOiq
  have hOc := m_lay_cnt (lt := lts x_o.toNat) (O := Oq) hwf hcx
  have hOl := m_lay_lc (lt := lts x_o.toNat) (O := Oq) hwf hcx
  refine k_aload_n h_o 0 dX6_depth_5 rfl rfl ?_
  refine k_get h_o 0 kf_X6_32 ((hexq17 0 (by show ¬ (7 ≤ 0 ∧ 0 ≤ 14); omega)).trans hpo) rfl dX6_depth_6 ?_
  refine k_get h_o 7 kf_X6_174 hlyq17.1 rfl dX6_depth_9 ?_
  exact k_iret h_o hr.ret rfl (⟨_, rfl, ⟨Oq, hOiq, rfl⟩, hxT, hstq17, hexp17⟩) (by omega) (by omega) dX6_depth_12

set_option maxHeartbeats 400000 in
set_option maxRecDepth 100000 in
theorem c_X6_ruleAt {E_o : kE} {l_o : Launch} (hl0 : l_o.stackTraces = false) {w_o : kW} {ad : Nat → Nat} {nr : Nat} {g_o : Nat → Nat → Int} {T_o : Nat} {lts : Nat → Nat → Int} {cs : Nat → Int} {acs : Nat → Nat → Int} {ams : Nat → Int} {rel fnd : Int} {Ns : Nat → Nat → Nat} {x_o p_o : Int} (hst : kSu w_o ad nr g_o T_o lts cs acs ams rel fnd Ns) (hx : -2147483648 ≤ x_o ∧ x_o < 2147483648) (hp : -2147483648 ≤ p_o ∧ p_o < 2147483648) : kMX E_o l_o yX6_ruleAt (.code yX6_ruleAt cX6_ruleAt 3 (some .int) :: kAL) { frames := 8, cells := 2, slots := 12, locals := 126 } 2 12 [.ref (ad 0), .int (iI x_o), .int (iI p_o)] w_o (pI (fun z_o w2_o => (∃ O_o : kO, kOi O_o ∧ (0 ≤ p_o ∧ p_o < (m_lay g_o nr (lts x_o.toNat) (cs x_o.toNat) O_o).1) ∧ (m_lay g_o nr (lts x_o.toNat) (cs x_o.toNat) O_o).2.1 p_o.toNat = z_o) ∧ (0 ≤ x_o ∧ x_o < (T_o : Int)) ∧ kSv w_o w2_o ad nr g_o T_o lts cs acs ams rel fnd Ns)) (fun Ex w2_o => ((Ex = "java/lang/IndexOutOfBoundsException" ∧ ¬ (0 ≤ x_o ∧ x_o < (T_o : Int))) ∨ (Ex = "java/util/NoSuchElementException" ∧ (0 ≤ x_o ∧ x_o < (T_o : Int)) ∧ (∃ O_o : kO, kOi O_o ∧ ¬ (0 ≤ p_o ∧ p_o < (m_lay g_o nr (lts x_o.toNat) (cs x_o.toNat) O_o).1)))) ∧ kSv w_o w2_o ad nr g_o T_o lts cs acs ams rel fnd Ns) := by
  refine kMX_of hl0 (by decide +kernel) (Nat.le_of_ble_eq_true rfl) ?_
  intro X_o hXl h_o hr
  subst hXl
  obtain ⟨⟨hpo, hgr, hwf, hts, hsc, hlo, hto, htx, htj⟩, hT⟩ := id hst
  obtain ⟨ls, Nz, cz, hs4, hs5, hs6⟩ := hsc
  obtain ⟨O_o, sk, hly, hOi⟩ := hlo
  obtain ⟨ht15, kn, ht16⟩ := hto
  have hnr := hgr.2.2.2
  have hT6 := hts.2
  show kG E_o X_o 3 0 0 w_o 0 [(0, .ref (ad 0)), (1, .int (iI x_o)), (2, .int (iI p_o))] []
  refine k_aload_n h_o 0 dX6_ruleAt_0 rfl rfl ?_
  refine k_iload_n h_o 1 dX6_ruleAt_1 rfl rfl ?_
  refine k_callVX (As := [.int (iI x_o)]) (rest := []) h_o mX6_layOut kq_3_200 (c_X6_layOut hl0 hst (by omega)) 0 hpo rfl rfl rfl (Nat.le_of_ble_eq_true rfl) ⟨rfl, rfl, ⟨(Nat.le_of_ble_eq_true rfl), (Nat.le_of_ble_eq_true rfl)⟩, ⟨(Nat.le_of_ble_eq_true rfl), (Nat.le_of_ble_eq_true rfl)⟩⟩ dX6_ruleAt_2 (fun Ex wx hx => k_out h_o hr (by obtain ⟨e1, e2⟩ := hx; exact ⟨Or.inl e1, e2⟩) (by decide) (by decide)) (kcV fun wq18 hp => ?_)
  obtain ⟨hxT, ⟨Oq, skq18, hlyq18, hOiq, hexq18⟩, hstq18, hexp18⟩ := hp
  have htxx := htx x_o.toNat (by omega)
  have htjx := htj x_o.toNat (by omega)
  have hcx := htjx.2.2.1
  have hOi2 := kOi_lay (lt := lts x_o.toNat) hwf hnr hcx hOiq
  have hOc := m_lay_cnt (lt := lts x_o.toNat) (O := Oq) hwf hcx
  have hOl := m_lay_lc (lt := lts x_o.toNat) (O := Oq) hwf hcx
  refine k_iload_n h_o 2 dX6_ruleAt_5 rfl rfl ?_
  refine k_iflt h_o 20 (by omega) dX6_ruleAt_6 (by decide) (fun h6_o => ?_) (fun h6_o => ?_)
  · exact k_throw0 (names := ["java/lang/RuntimeException", "java/lang/Exception"]) h_o hr (by decide +kernel) (by decide +kernel) kq_2_237 kq_1_13 kx1_NSE kx2_NSE kx3_NSE dX6_ruleAt_20 dX6_ruleAt_23 dX6_ruleAt_24 dX6_ruleAt_27 ⟨by decide, by decide, by decide, by decide⟩ (⟨Or.inr ⟨rfl, hxT, Oq, hOiq, (by omega)⟩, hstq18, hexp18⟩) (by decide) (by decide)
  · refine k_iload_n h_o 2 dX6_ruleAt_9 rfl rfl ?_
    refine k_aload_n h_o 0 dX6_ruleAt_10 rfl rfl ?_
    refine k_get h_o 0 kf_X6_32 ((hexq18 0 (by show ¬ (7 ≤ 0 ∧ 0 ≤ 14); omega)).trans hpo) rfl dX6_ruleAt_11 ?_
    refine k_get h_o 7 kf_X6_165 hlyq18.1 rfl dX6_ruleAt_14 ?_
    refine k_icmp_lt h_o 28 (by omega) (by omega) dX6_ruleAt_17 (by decide) (fun h17_o => ?_) (fun h17_o => ?_)
    · refine k_aload_n h_o 0 dX6_ruleAt_28 rfl rfl ?_
      refine k_get h_o 0 kf_X6_32 ((hexq18 0 (by show ¬ (7 ≤ 0 ∧ 0 ≤ 14); omega)).trans hpo) rfl dX6_ruleAt_29 ?_
      refine k_iload_n h_o 2 dX6_ruleAt_32 rfl rfl ?_
      refine k_callV (As := [.int (iI p_o)]) (rest := []) h_o mX1_ruleNumber kq_3_211 (c_X1_ruleNumber hl0 hlyq18 (by omega)) 7 hlyq18.1 rfl rfl rfl (Nat.le_of_ble_eq_true rfl) ⟨rfl, rfl, ⟨(Nat.le_of_ble_eq_true rfl), (Nat.le_of_ble_eq_true rfl)⟩, ⟨(Nat.le_of_ble_eq_true rfl), (Nat.le_of_ble_eq_true rfl)⟩⟩ dX6_ruleAt_33 (kcI fun z33_o w33_o hp => ?_)
      obtain ⟨rfl, rfl⟩ := hp
      exact k_iret h_o hr.ret rfl (⟨_, rfl, ⟨Oq, hOiq, (by omega), rfl⟩, hxT, hstq18, hexp18⟩) (by omega) (by omega) dX6_ruleAt_36
    · exact k_throw0 (names := ["java/lang/RuntimeException", "java/lang/Exception"]) h_o hr (by decide +kernel) (by decide +kernel) kq_2_237 kq_1_13 kx1_NSE kx2_NSE kx3_NSE dX6_ruleAt_20 dX6_ruleAt_23 dX6_ruleAt_24 dX6_ruleAt_27 ⟨by decide, by decide, by decide, by decide⟩ (⟨Or.inr ⟨rfl, hxT, Oq, hOiq, (by omega)⟩, hstq18, hexp18⟩) (by decide) (by decide)

set_option maxHeartbeats 400000 in
set_option maxRecDepth 100000 in
theorem c_X6_colourAt {E_o : kE} {l_o : Launch} (hl0 : l_o.stackTraces = false) {w_o : kW} {ad : Nat → Nat} {nr : Nat} {g_o : Nat → Nat → Int} {T_o : Nat} {lts : Nat → Nat → Int} {cs : Nat → Int} {acs : Nat → Nat → Int} {ams : Nat → Int} {rel fnd : Int} {Ns : Nat → Nat → Nat} {x_o p_o : Int} (hst : kSu w_o ad nr g_o T_o lts cs acs ams rel fnd Ns) (hx : -2147483648 ≤ x_o ∧ x_o < 2147483648) (hp : -2147483648 ≤ p_o ∧ p_o < 2147483648) : kMX E_o l_o yX6_colourAt (.code yX6_colourAt cX6_colourAt 4 (some .int) :: kAL) { frames := 7, cells := 2, slots := 12, locals := 105 } 2 12 [.ref (ad 0), .int (iI x_o), .int (iI p_o)] w_o (pI (fun z_o w2_o => (∃ O_o : kO, kOi O_o ∧ (m_lay g_o nr (lts x_o.toNat) (cs x_o.toNat) O_o).2.2.1 p_o.toNat = z_o) ∧ ((0 ≤ x_o ∧ x_o < (T_o : Int)) ∧ 0 ≤ p_o ∧ p_o < cs x_o.toNat) ∧ kSv w_o w2_o ad nr g_o T_o lts cs acs ams rel fnd Ns)) (fun Ex w2_o => (Ex = "java/lang/IndexOutOfBoundsException" ∧ ¬ ((0 ≤ x_o ∧ x_o < (T_o : Int)) ∧ 0 ≤ p_o ∧ p_o < cs x_o.toNat)) ∧ kSv w_o w2_o ad nr g_o T_o lts cs acs ams rel fnd Ns) := by
  refine kMX_of hl0 (by decide +kernel) (Nat.le_of_ble_eq_true rfl) ?_
  intro X_o hXl h_o hr
  subst hXl
  obtain ⟨⟨hpo, hgr, hwf, hts, hsc, hlo, hto, htx, htj⟩, hT⟩ := id hst
  obtain ⟨ls, Nz, cz, hs4, hs5, hs6⟩ := hsc
  obtain ⟨O_o, sk, hly, hOi⟩ := hlo
  obtain ⟨ht15, kn, ht16⟩ := hto
  have hnr := hgr.2.2.2
  have hT6 := hts.2
  show kG E_o X_o 4 0 0 w_o 0 [(0, .ref (ad 0)), (1, .int (iI x_o)), (2, .int (iI p_o))] []
  refine k_aload_n h_o 0 dX6_colourAt_0 rfl rfl ?_
  refine k_iload_n h_o 1 dX6_colourAt_1 rfl rfl ?_
  refine k_callVX (As := [.int (iI x_o)]) (rest := []) h_o mX6_existingText kq_3_110 (c_X6_existingText hl0 hpo hts (by omega)) 0 hpo rfl rfl rfl (Nat.le_of_ble_eq_true rfl) ⟨rfl, rfl, ⟨(Nat.le_of_ble_eq_true rfl), (Nat.le_of_ble_eq_true rfl)⟩, ⟨(Nat.le_of_ble_eq_true rfl), (Nat.le_of_ble_eq_true rfl)⟩⟩ dX6_colourAt_2 (fun Ex wx hx => k_out h_o hr (by obtain ⟨e1, e2, e3⟩ := hx; subst e3; exact ⟨⟨e1, fun q_o => e2 q_o.1⟩, hst, kEx.rfl⟩) (by decide) (by decide)) (kcR fun z2_o w2_o hp => ?_)
  obtain ⟨rfl, hxT, rfl⟩ := hp
  have htxx := htx x_o.toNat (by omega)
  have htjx := htj x_o.toNat (by omega)
  have hTx := hT x_o.toNat (by omega)
  have hcx := htjx.2.2.1
  refine k_get h_o (200 + 5 * x_o.toNat) kf_X6_117 htxx.1 rfl dX6_colourAt_5 ?_
  refine k_astore_n (lv' := [(3, .ref (ad (200 + 5 * x_o.toNat + 1))), (0, .ref (ad 0)), (1, .int (iI x_o)), (2, .int (iI p_o))]) h_o dX6_colourAt_8 rfl (by decide) rfl ?_
  refine k_aload_n h_o 0 dX6_colourAt_9 rfl rfl ?_
  refine k_iload_n h_o 3 dX6_colourAt_10 rfl rfl ?_
  refine k_callSX (As := [.ref (ad (200 + 5 * x_o.toNat + 1)), .int (iI p_o)]) (rest := []) h_o mX6_requirePlace kq_3_136 (c_X6_requirePlace hl0 htxx.2.1 (by omega) (by omega)) rfl rfl (Nat.le_of_ble_eq_true rfl) ⟨rfl, rfl, ⟨(Nat.le_of_ble_eq_true rfl), (Nat.le_of_ble_eq_true rfl)⟩, ⟨(Nat.le_of_ble_eq_true rfl), (Nat.le_of_ble_eq_true rfl)⟩⟩ dX6_colourAt_11 (fun Ex wx hx => k_out h_o hr (by obtain ⟨e1, e2, e3⟩ := hx; subst e3; exact ⟨⟨e1, fun q_o => e2 q_o.2⟩, hst, kEx.rfl⟩) (by decide) (by decide)) (kcV fun w11_o hp => ?_)
  obtain ⟨hP11, rfl⟩ := hp
  refine k_aload_n h_o 1 dX6_colourAt_14 rfl rfl ?_
  refine k_get h_o 0 kf_X6_32 hpo rfl dX6_colourAt_15 ?_
  refine k_aload_n h_o 1 dX6_colourAt_18 rfl rfl ?_
  refine k_get h_o 0 kf_X6_12 hpo rfl dX6_colourAt_19 ?_
  refine k_aload_n h_o 0 dX6_colourAt_22 rfl rfl ?_
  refine k_callV (As := [.ref (ad 1), .ref (ad (200 + 5 * x_o.toNat + 1))]) (rest := []) h_o mX1_lay kq_2_6 (c_X1_lay hl0 hly htxx.2.1 htjx.1 htjx.2.1 hgr hwf (by omega) hTx hcx hOi) 7 hly.1 rfl rfl rfl (Nat.le_of_ble_eq_true rfl) ⟨rfl, rfl, ⟨(Nat.le_of_ble_eq_true rfl), (Nat.le_of_ble_eq_true rfl)⟩, ⟨(Nat.le_of_ble_eq_true rfl), (Nat.le_of_ble_eq_true rfl)⟩⟩ dX6_colourAt_23 (kcV fun wq19 hp => ?_)
  obtain ⟨skq19, hlyq19, hexq19⟩ := hp
  have hOi2 := kOi_lay (lt := lts x_o.toNat) hwf hnr hcx hOi
  have hOc := m_lay_cnt (lt := lts x_o.toNat) (O := O_o) hwf hcx
  have hOl := m_lay_lc (lt := lts x_o.toNat) (O := O_o) hwf hcx
  refine k_aload_n h_o 1 dX6_colourAt_26 rfl rfl ?_
  refine k_get h_o 0 kf_X6_32 ((hexq19 0 (by show ¬ (7 ≤ 0 ∧ 0 ≤ 14); omega)).trans hpo) rfl dX6_colourAt_27 ?_
  refine k_iload_n h_o 3 dX6_colourAt_30 rfl rfl ?_
  refine k_callV (As := [.int (iI p_o)]) (rest := []) h_o mX1_colourOf kq_3_229 (c_X1_colourOf hl0 hlyq19 (by omega)) 7 hlyq19.1 rfl rfl rfl (Nat.le_of_ble_eq_true rfl) ⟨rfl, rfl, ⟨(Nat.le_of_ble_eq_true rfl), (Nat.le_of_ble_eq_true rfl)⟩, ⟨(Nat.le_of_ble_eq_true rfl), (Nat.le_of_ble_eq_true rfl)⟩⟩ dX6_colourAt_31 (kcI fun z31_o w31_o hp => ?_)
  obtain ⟨rfl, rfl⟩ := hp
  exact k_iret h_o hr.ret rfl (⟨_, rfl, ⟨O_o, hOi, rfl⟩, ⟨hxT, hP11⟩, ⟨hst.1.ly hlyq19 hOi2 hexq19, hst.2⟩, (kEx.trans kEx.rfl (hexq19.sub kLk_Pk))⟩) (by omega) (by omega) dX6_colourAt_34

set_option maxHeartbeats 400000 in
set_option maxRecDepth 100000 in
theorem c_X6_formatted {E_o : kE} {l_o : Launch} (hl0 : l_o.stackTraces = false) {w_o : kW} {ad : Nat → Nat} {nr : Nat} {g_o : Nat → Nat → Int} {T_o : Nat} {lts : Nat → Nat → Int} {cs : Nat → Int} {acs : Nat → Nat → Int} {ams : Nat → Int} {rel fnd : Int} {Ns : Nat → Nat → Nat} {x_o : Int} (hst : kSu w_o ad nr g_o T_o lts cs acs ams rel fnd Ns) (hx : -2147483648 ≤ x_o ∧ x_o < 2147483648) : kMX E_o l_o yX6_formatted (.code yX6_formatted cX6_formatted 2 (some .int) :: kAL) { frames := 8, cells := 1, slots := 6, locals := 126 } 1 6 [.ref (ad 0), .int (iI x_o)] w_o (pI (fun z_o w2_o => (∃ O_o : kO, kOi O_o ∧ m_ns (m_lay g_o nr (lts x_o.toNat) (cs x_o.toNat) O_o) = z_o) ∧ (0 ≤ x_o ∧ x_o < (T_o : Int)) ∧ kSv w_o w2_o ad nr g_o T_o lts cs acs ams rel fnd Ns)) (fun Ex w2_o => (Ex = "java/lang/IndexOutOfBoundsException" ∧ ¬ (0 ≤ x_o ∧ x_o < (T_o : Int))) ∧ kSv w_o w2_o ad nr g_o T_o lts cs acs ams rel fnd Ns) := by
  refine kMX_of hl0 (by decide +kernel) (Nat.le_of_ble_eq_true rfl) ?_
  intro X_o hXl h_o hr
  subst hXl
  obtain ⟨⟨hpo, hgr, hwf, hts, hsc, hlo, hto, htx, htj⟩, hT⟩ := id hst
  obtain ⟨ls, Nz, cz, hs4, hs5, hs6⟩ := hsc
  obtain ⟨O_o, sk, hly, hOi⟩ := hlo
  obtain ⟨ht15, kn, ht16⟩ := hto
  have hnr := hgr.2.2.2
  have hT6 := hts.2
  show kG E_o X_o 2 0 0 w_o 0 [(0, .ref (ad 0)), (1, .int (iI x_o))] []
  refine k_aload_n h_o 0 dX6_formatted_0 rfl rfl ?_
  refine k_iload_n h_o 1 dX6_formatted_1 rfl rfl ?_
  refine k_callVX (As := [.int (iI x_o)]) (rest := []) h_o mX6_layOut kq_3_200 (c_X6_layOut hl0 hst (by omega)) 0 hpo rfl rfl rfl (Nat.le_of_ble_eq_true rfl) ⟨rfl, rfl, ⟨(Nat.le_of_ble_eq_true rfl), (Nat.le_of_ble_eq_true rfl)⟩, ⟨(Nat.le_of_ble_eq_true rfl), (Nat.le_of_ble_eq_true rfl)⟩⟩ dX6_formatted_2 (fun Ex wx hx => k_out h_o hr (by obtain ⟨e1, e2⟩ := hx; exact ⟨e1, e2⟩) (by decide) (by decide)) (kcV fun wq20 hp => ?_)
  obtain ⟨hxT, ⟨Oq, skq20, hlyq20, hOiq, hexq20⟩, hstq20, hexp20⟩ := hp
  have htxx := htx x_o.toNat (by omega)
  have htjx := htj x_o.toNat (by omega)
  have hcx := htjx.2.2.1
  have hOi2 := kOi_lay (lt := lts x_o.toNat) hwf hnr hcx hOiq
  have hOc := m_lay_cnt (lt := lts x_o.toNat) (O := Oq) hwf hcx
  have hOl := m_lay_lc (lt := lts x_o.toNat) (O := Oq) hwf hcx
  refine k_aload_n h_o 0 dX6_formatted_5 rfl rfl ?_
  refine k_get h_o 0 kf_X6_32 ((hexq20 0 (by show ¬ (7 ≤ 0 ∧ 0 ≤ 14); omega)).trans hpo) rfl dX6_formatted_6 ?_
  refine k_callV (As := []) (rest := []) h_o mX1_countSigns kq_4_0 (c_X1_countSigns hl0 hlyq20 hOi2.2.1 hOl) 7 hlyq20.1 rfl rfl rfl (Nat.le_of_ble_eq_true rfl) ⟨rfl, rfl, ⟨(Nat.le_of_ble_eq_true rfl), (Nat.le_of_ble_eq_true rfl)⟩, ⟨(Nat.le_of_ble_eq_true rfl), (Nat.le_of_ble_eq_true rfl)⟩⟩ dX6_formatted_9 (kcI fun z9_o w9_o hp => ?_)
  obtain ⟨rfl, rfl⟩ := hp
  have hnsr := m_ns_rg hOi2 hOl
  refine k_top (z' := m_ns (m_lay g_o nr (lts x_o.toNat) (cs x_o.toNat) Oq)) rfl ?_
  exact k_iret h_o hr.ret rfl (⟨_, rfl, ⟨Oq, hOiq, rfl⟩, hxT, hstq20, hexp20⟩) (by omega) (by omega) dX6_formatted_12

set_option maxHeartbeats 400000 in
set_option maxRecDepth 100000 in
theorem c_X6_formattedAt {E_o : kE} {l_o : Launch} (hl0 : l_o.stackTraces = false) {w_o : kW} {ad : Nat → Nat} {nr : Nat} {g_o : Nat → Nat → Int} {T_o : Nat} {lts : Nat → Nat → Int} {cs : Nat → Int} {acs : Nat → Nat → Int} {ams : Nat → Int} {rel fnd : Int} {Ns : Nat → Nat → Nat} {x_o p_o : Int} (hst : kSu w_o ad nr g_o T_o lts cs acs ams rel fnd Ns) (hx : -2147483648 ≤ x_o ∧ x_o < 2147483648) (hp : -2147483648 ≤ p_o ∧ p_o < 2147483648) : kMX E_o l_o yX6_formattedAt (.code yX6_formattedAt cX6_formattedAt 4 (some .char) :: kAL) { frames := 7, cells := 2, slots := 12, locals := 105 } 2 12 [.ref (ad 0), .int (iI x_o), .int (iI p_o)] w_o (pI (fun z_o w2_o => (∃ O_o : kO, kOi O_o ∧ (0 ≤ p_o ∧ p_o < m_ns (m_lay g_o nr (lts x_o.toNat) (cs x_o.toNat) O_o)) ∧ m_sg (m_lay g_o nr (lts x_o.toNat) (cs x_o.toNat) O_o).2.2.2.1 (lts x_o.toNat) p_o 10 0 0 = z_o) ∧ (0 ≤ x_o ∧ x_o < (T_o : Int)) ∧ kSv w_o w2_o ad nr g_o T_o lts cs acs ams rel fnd Ns)) (fun Ex w2_o => ((Ex = "java/lang/IndexOutOfBoundsException" ∧ ¬ (0 ≤ x_o ∧ x_o < (T_o : Int))) ∨ (Ex = "java/util/NoSuchElementException" ∧ (0 ≤ x_o ∧ x_o < (T_o : Int)) ∧ (∃ O_o : kO, kOi O_o ∧ ¬ (0 ≤ p_o ∧ p_o < m_ns (m_lay g_o nr (lts x_o.toNat) (cs x_o.toNat) O_o))))) ∧ kSv w_o w2_o ad nr g_o T_o lts cs acs ams rel fnd Ns) := by
  refine kMX_of hl0 (by decide +kernel) (Nat.le_of_ble_eq_true rfl) ?_
  intro X_o hXl h_o hr
  subst hXl
  obtain ⟨⟨hpo, hgr, hwf, hts, hsc, hlo, hto, htx, htj⟩, hT⟩ := id hst
  obtain ⟨ls, Nz, cz, hs4, hs5, hs6⟩ := hsc
  obtain ⟨O_o, sk, hly, hOi⟩ := hlo
  obtain ⟨ht15, kn, ht16⟩ := hto
  have hnr := hgr.2.2.2
  have hT6 := hts.2
  show kG E_o X_o 4 0 0 w_o 0 [(0, .ref (ad 0)), (1, .int (iI x_o)), (2, .int (iI p_o))] []
  refine k_aload_n h_o 0 dX6_formattedAt_0 rfl rfl ?_
  refine k_iload_n h_o 1 dX6_formattedAt_1 rfl rfl ?_
  refine k_callVX (As := [.int (iI x_o)]) (rest := []) h_o mX6_existingText kq_3_110 (c_X6_existingText hl0 hpo hts (by omega)) 0 hpo rfl rfl rfl (Nat.le_of_ble_eq_true rfl) ⟨rfl, rfl, ⟨(Nat.le_of_ble_eq_true rfl), (Nat.le_of_ble_eq_true rfl)⟩, ⟨(Nat.le_of_ble_eq_true rfl), (Nat.le_of_ble_eq_true rfl)⟩⟩ dX6_formattedAt_2 (fun Ex wx hx => k_out h_o hr (by obtain ⟨e1, e2, e3⟩ := hx; subst e3; exact ⟨Or.inl ⟨e1, e2⟩, hst, kEx.rfl⟩) (by decide) (by decide)) (kcR fun z2_o w2_o hp => ?_)
  obtain ⟨rfl, hxT, rfl⟩ := hp
  have htxx := htx x_o.toNat (by omega)
  have htjx := htj x_o.toNat (by omega)
  have hTx := hT x_o.toNat (by omega)
  have hcx := htjx.2.2.1
  refine k_get h_o (200 + 5 * x_o.toNat) kf_X6_117 htxx.1 rfl dX6_formattedAt_5 ?_
  refine k_astore_n (lv' := [(3, .ref (ad (200 + 5 * x_o.toNat + 1))), (0, .ref (ad 0)), (1, .int (iI x_o)), (2, .int (iI p_o))]) h_o dX6_formattedAt_8 rfl (by decide) rfl ?_
  refine k_aload_n h_o 1 dX6_formattedAt_9 rfl rfl ?_
  refine k_get h_o 0 kf_X6_32 hpo rfl dX6_formattedAt_10 ?_
  refine k_aload_n h_o 1 dX6_formattedAt_13 rfl rfl ?_
  refine k_get h_o 0 kf_X6_12 hpo rfl dX6_formattedAt_14 ?_
  refine k_aload_n h_o 0 dX6_formattedAt_17 rfl rfl ?_
  refine k_callV (As := [.ref (ad 1), .ref (ad (200 + 5 * x_o.toNat + 1))]) (rest := []) h_o mX1_lay kq_2_6 (c_X1_lay hl0 hly htxx.2.1 htjx.1 htjx.2.1 hgr hwf (by omega) hTx hcx hOi) 7 hly.1 rfl rfl rfl (Nat.le_of_ble_eq_true rfl) ⟨rfl, rfl, ⟨(Nat.le_of_ble_eq_true rfl), (Nat.le_of_ble_eq_true rfl)⟩, ⟨(Nat.le_of_ble_eq_true rfl), (Nat.le_of_ble_eq_true rfl)⟩⟩ dX6_formattedAt_18 (kcV fun wq21 hp => ?_)
  obtain ⟨skq21, hlyq21, hexq21⟩ := hp
  have hOi2 := kOi_lay (lt := lts x_o.toNat) hwf hnr hcx hOi
  have hOc := m_lay_cnt (lt := lts x_o.toNat) (O := O_o) hwf hcx
  have hOl := m_lay_lc (lt := lts x_o.toNat) (O := O_o) hwf hcx
  refine k_iload_n h_o 3 dX6_formattedAt_21 rfl rfl ?_
  refine k_iflt h_o 36 (by omega) dX6_formattedAt_22 (by decide) (fun h22_o => ?_) (fun h22_o => ?_)
  · exact k_throw0 (names := ["java/lang/RuntimeException", "java/lang/Exception"]) h_o hr (by decide +kernel) (by decide +kernel) kq_2_237 kq_1_13 kx1_NSE kx2_NSE kx3_NSE dX6_formattedAt_36 dX6_formattedAt_39 dX6_formattedAt_40 dX6_formattedAt_43 ⟨by decide, by decide, by decide, by decide⟩ (⟨Or.inr ⟨rfl, hxT, O_o, hOi, (by omega)⟩, ⟨hst.1.ly hlyq21 hOi2 hexq21, hst.2⟩, (kEx.trans kEx.rfl (hexq21.sub kLk_Pk))⟩) (by decide) (by decide)
  · refine k_iload_n h_o 3 dX6_formattedAt_25 rfl rfl ?_
    refine k_aload_n h_o 1 dX6_formattedAt_26 rfl rfl ?_
    refine k_get h_o 0 kf_X6_32 ((hexq21 0 (by show ¬ (7 ≤ 0 ∧ 0 ≤ 14); omega)).trans hpo) rfl dX6_formattedAt_27 ?_
    refine k_callV (As := []) (rest := [.int (iI p_o)]) h_o mX1_countSigns kq_4_0 (c_X1_countSigns hl0 hlyq21 hOi2.2.1 hOl) 7 hlyq21.1 rfl rfl rfl (Nat.le_of_ble_eq_true rfl) ⟨rfl, rfl, ⟨(Nat.le_of_ble_eq_true rfl), (Nat.le_of_ble_eq_true rfl)⟩, ⟨(Nat.le_of_ble_eq_true rfl), (Nat.le_of_ble_eq_true rfl)⟩⟩ dX6_formattedAt_30 (kcI fun z30_o w30_o hp => ?_)
    obtain ⟨rfl, rfl⟩ := hp
    have hnsr := m_ns_rg hOi2 hOl
    refine k_top (z' := m_ns (m_lay g_o nr (lts x_o.toNat) (cs x_o.toNat) O_o)) rfl ?_
    refine k_icmp_lt h_o 44 (by omega) (by omega) dX6_formattedAt_33 (by decide) (fun h33_o => ?_) (fun h33_o => ?_)
    · refine k_aload_n h_o 1 dX6_formattedAt_44 rfl rfl ?_
      refine k_get h_o 0 kf_X6_32 ((hexq21 0 (by show ¬ (7 ≤ 0 ∧ 0 ≤ 14); omega)).trans hpo) rfl dX6_formattedAt_45 ?_
      refine k_aload_n h_o 0 dX6_formattedAt_48 rfl rfl ?_
      refine k_iload_n h_o 3 dX6_formattedAt_49 rfl rfl ?_
      refine k_callV (As := [.ref (ad (200 + 5 * x_o.toNat + 1)), .int (iI p_o)]) (rest := []) h_o mX1_sign kq_4_11 (c_X1_sign hl0 hlyq21 ⟨((hexq21 (200 + 5 * x_o.toNat + 1) (by show ¬ (7 ≤ (200 + 5 * x_o.toNat + 1) ∧ (200 + 5 * x_o.toNat + 1) ≤ 14); omega)).trans htxx.2.1.1), ((hexq21 (200 + 5 * x_o.toNat + 2) (by show ¬ (7 ≤ (200 + 5 * x_o.toNat + 2) ∧ (200 + 5 * x_o.toNat + 2) ≤ 14); omega)).trans htxx.2.1.2.1), ((hexq21 (200 + 5 * x_o.toNat + 3) (by show ¬ (7 ≤ (200 + 5 * x_o.toNat + 3) ∧ (200 + 5 * x_o.toNat + 3) ≤ 14); omega)).trans htxx.2.1.2.2)⟩ htjx.1 hOi2.2.1 (by omega)) 7 hlyq21.1 rfl rfl rfl (Nat.le_of_ble_eq_true rfl) ⟨rfl, rfl, ⟨(Nat.le_of_ble_eq_true rfl), (Nat.le_of_ble_eq_true rfl)⟩, ⟨(Nat.le_of_ble_eq_true rfl), (Nat.le_of_ble_eq_true rfl)⟩⟩ dX6_formattedAt_50 (kcI fun z50_o w50_o hp => ?_)
      obtain ⟨rfl, rfl⟩ := hp
      exact k_iret h_o hr.ret (iI_chn (m_sg_rg htjx.1)) (⟨_, rfl, ⟨O_o, hOi, (by omega), rfl⟩, hxT, ⟨hst.1.ly hlyq21 hOi2 hexq21, hst.2⟩, (kEx.trans kEx.rfl (hexq21.sub kLk_Pk))⟩) (by omega) (by omega) dX6_formattedAt_53
    · exact k_throw0 (names := ["java/lang/RuntimeException", "java/lang/Exception"]) h_o hr (by decide +kernel) (by decide +kernel) kq_2_237 kq_1_13 kx1_NSE kx2_NSE kx3_NSE dX6_formattedAt_36 dX6_formattedAt_39 dX6_formattedAt_40 dX6_formattedAt_43 ⟨by decide, by decide, by decide, by decide⟩ (⟨Or.inr ⟨rfl, hxT, O_o, hOi, (by omega)⟩, ⟨hst.1.ly hlyq21 hOi2 hexq21, hst.2⟩, (kEx.trans kEx.rfl (hexq21.sub kLk_Pk))⟩) (by decide) (by decide)

set_option maxHeartbeats 400000 in
set_option maxRecDepth 100000 in
theorem c_X6_treesByTrying {E_o : kE} {l_o : Launch} (hl0 : l_o.stackTraces = false) {w_o : kW} {ad : Nat → Nat} {nr : Nat} {g_o : Nat → Nat → Int} {T_o : Nat} {lts : Nat → Nat → Int} {cs : Nat → Int} {acs : Nat → Nat → Int} {ams : Nat → Int} {rel fnd : Int} {Ns : Nat → Nat → Nat} {x_o : Int} (hst : kSu w_o ad nr g_o T_o lts cs acs ams rel fnd Ns) (hx : -2147483648 ≤ x_o ∧ x_o < 2147483648) : kMX E_o l_o yX6_treesByTrying (.code yX6_treesByTrying cX6_treesByTrying 3 (some .int) :: kAL) { frames := 104, cells := 2, slots := 12, locals := 2962 } 2 12 [.ref (ad 0), .int (iI x_o)] w_o (pI (fun z_o w2_o => ((m_TT g_o nr (lts x_o.toNat) 10 0 (cs x_o.toNat - 1) : Nat) : Int) = z_o ∧ (0 ≤ x_o ∧ x_o < (T_o : Int)) ∧ cs x_o.toNat ≤ 5 ∧ kSv w_o w2_o ad nr g_o T_o lts cs acs ams rel fnd Ns)) (fun Ex w2_o => ((Ex = "java/lang/IndexOutOfBoundsException" ∧ ¬ (0 ≤ x_o ∧ x_o < (T_o : Int))) ∨ (Ex = "java/lang/UnsupportedOperationException" ∧ (0 ≤ x_o ∧ x_o < (T_o : Int)) ∧ 5 < cs x_o.toNat)) ∧ kSv w_o w2_o ad nr g_o T_o lts cs acs ams rel fnd Ns) := by
  refine kMX_of hl0 (by decide +kernel) (Nat.le_of_ble_eq_true rfl) ?_
  intro X_o hXl h_o hr
  subst hXl
  obtain ⟨⟨hpo, hgr, hwf, hts, hsc, hlo, hto, htx, htj⟩, hT⟩ := id hst
  obtain ⟨ls, Nz, cz, hs4, hs5, hs6⟩ := hsc
  obtain ⟨O_o, sk, hly, hOi⟩ := hlo
  obtain ⟨ht15, kn, ht16⟩ := hto
  have hnr := hgr.2.2.2
  have hT6 := hts.2
  show kG E_o X_o 3 0 0 w_o 0 [(0, .ref (ad 0)), (1, .int (iI x_o))] []
  refine k_aload_n h_o 0 dX6_treesByTrying_0 rfl rfl ?_
  refine k_iload_n h_o 1 dX6_treesByTrying_1 rfl rfl ?_
  refine k_callVX (As := [.int (iI x_o)]) (rest := []) h_o mX6_existingText kq_3_110 (c_X6_existingText hl0 hpo hts (by omega)) 0 hpo rfl rfl rfl (Nat.le_of_ble_eq_true rfl) ⟨rfl, rfl, ⟨(Nat.le_of_ble_eq_true rfl), (Nat.le_of_ble_eq_true rfl)⟩, ⟨(Nat.le_of_ble_eq_true rfl), (Nat.le_of_ble_eq_true rfl)⟩⟩ dX6_treesByTrying_2 (fun Ex wx hx => k_out h_o hr (by obtain ⟨e1, e2, e3⟩ := hx; subst e3; exact ⟨Or.inl ⟨e1, e2⟩, hst, kEx.rfl⟩) (by decide) (by decide)) (kcR fun z2_o w2_o hp => ?_)
  obtain ⟨rfl, hxT, rfl⟩ := hp
  have htxx := htx x_o.toNat (by omega)
  have htjx := htj x_o.toNat (by omega)
  have hTx := hT x_o.toNat (by omega)
  have hcx := htjx.2.2.1
  refine k_get h_o (200 + 5 * x_o.toNat) kf_X6_117 htxx.1 rfl dX6_treesByTrying_5 ?_
  refine k_astore_n (lv' := [(2, .ref (ad (200 + 5 * x_o.toNat + 1))), (0, .ref (ad 0)), (1, .int (iI x_o))]) h_o dX6_treesByTrying_8 rfl (by decide) rfl ?_
  refine k_aload_n h_o 0 dX6_treesByTrying_9 rfl rfl ?_
  refine k_get h_o (200 + 5 * x_o.toNat + 1) kf_X6_131 htxx.2.1.1 rfl dX6_treesByTrying_10 ?_
  refine k_iconst h_o dX6_treesByTrying_13 ?_
  refine k_icmp_le h_o 25 (by omega) (by decide) dX6_treesByTrying_14 (by decide) (fun h14_o => ?_) (fun h14_o => ?_)
  · refine k_aload_n h_o 1 dX6_treesByTrying_25 rfl rfl ?_
    refine k_get h_o 0 kf_X6_39 hpo rfl dX6_treesByTrying_26 ?_
    refine k_aload_n h_o 1 dX6_treesByTrying_29 rfl rfl ?_
    refine k_get h_o 0 kf_X6_12 hpo rfl dX6_treesByTrying_30 ?_
    refine k_aload_n h_o 0 dX6_treesByTrying_33 rfl rfl ?_
    refine k_callV (As := [.ref (ad 1), .ref (ad (200 + 5 * x_o.toNat + 1))]) (rest := []) h_o mX5_treesOfAll kq_1_181 (c_X5_treesOfAll hl0 ⟨ht15, htxx.2.1, hgr, htjx.1, htjx.2.1, hwf, (by omega)⟩ ht16 (by omega)) 15 ht15 rfl rfl rfl (Nat.le_of_ble_eq_true rfl) ⟨rfl, rfl, ⟨(Nat.le_of_ble_eq_true rfl), (Nat.le_of_ble_eq_true rfl)⟩, ⟨(Nat.le_of_ble_eq_true rfl), (Nat.le_of_ble_eq_true rfl)⟩⟩ dX6_treesByTrying_34 (kcI fun z34_o w34_o hp => ?_)
    obtain ⟨rfl, kn2, rfl⟩ := hp
    exact k_iret h_o hr.ret rfl (⟨_, rfl, rfl, hxT, h14_o, ⟨hst.1.tr (kn := kn2) kset_eq (kEx.kset rfl), hst.2⟩, (kEx.trans kEx.rfl (kEx.kset (Or.inl (by decide))))⟩) (by omega) (by omega) dX6_treesByTrying_37
  · exact k_throw0 (names := ["java/lang/RuntimeException", "java/lang/Exception"]) h_o hr (by decide +kernel) (by decide +kernel) kq_3_170 kq_1_19 kx1_UOE kx2_UOE kx3_UOE dX6_treesByTrying_17 dX6_treesByTrying_20 dX6_treesByTrying_21 dX6_treesByTrying_24 ⟨by decide, by decide, by decide, by decide⟩ (⟨Or.inr ⟨rfl, hxT, (by omega)⟩, hst, kEx.rfl⟩) (by decide) (by decide)
