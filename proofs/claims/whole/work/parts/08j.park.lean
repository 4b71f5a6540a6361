set_option maxHeartbeats 400000 in
set_option maxRecDepth 100000 in
theorem c_X6_accept {E_o : kE} {l_o : Launch} (hl0 : l_o.stackTraces = false) {w_o : kW} {ad : Nat → Nat} {nr : Nat} {g_o : Nat → Nat → Int} {T_o : Nat} {lts : Nat → Nat → Int} {cs : Nat → Int} {acs : Nat → Nat → Int} {ams : Nat → Int} {rel fnd : Int} {Ns : Nat → Nat → Nat} {x_o : Int} (hst : kSu w_o ad nr g_o T_o lts cs acs ams rel fnd Ns) (hx : -2147483648 ≤ x_o ∧ x_o < 2147483648) : kMX E_o l_o yX6_accept (.code yX6_accept cX6_accept 3 (some .int) :: kAL) { frames := 7, cells := 2, slots := 12, locals := 105 } 2 12 [.ref (ad 0), .int (iI x_o)] w_o (pI (fun z_o w2_o => (m_lay g_o nr (lts x_o.toNat) (cs x_o.toNat) kO0).1 = z_o ∧ (0 ≤ x_o ∧ x_o < (T_o : Int)) ∧ (m_lay g_o nr (lts x_o.toNat) (cs x_o.toNat) kO0).1 ≠ 0 ∧ ∃ ac2 : Nat → Int, (∀ p_o : Nat, (p_o : Int) < (m_lay g_o nr (lts x_o.toNat) (cs x_o.toNat) kO0).1 → ac2 p_o = (m_lay g_o nr (lts x_o.toNat) (cs x_o.toNat) kO0).2.1 p_o) ∧ kSv w_o w2_o ad nr g_o T_o lts cs (kup acs x_o.toNat ac2) (kup ams x_o.toNat (m_lay g_o nr (lts x_o.toNat) (cs x_o.toNat) kO0).1) rel fnd Ns)) (fun Ex w2_o => ((Ex = "java/lang/IndexOutOfBoundsException" ∧ ¬ (0 ≤ x_o ∧ x_o < (T_o : Int))) ∨ (Ex = "java/lang/IllegalStateException" ∧ (0 ≤ x_o ∧ x_o < (T_o : Int)) ∧ (m_lay g_o nr (lts x_o.toNat) (cs x_o.toNat) kO0).1 = 0)) ∧ kSv w_o w2_o ad nr g_o T_o lts cs acs ams rel fnd Ns) := by
  refine kMX_of hl0 (by decide +kernel) (Nat.le_of_ble_eq_true rfl) ?_
  intro X_o hXl h_o hr
  subst hXl
  obtain ⟨⟨hpo, hgr, hwf, hts, hsc, hlo, hto, htx, htj⟩, hT⟩ := id hst
  obtain ⟨ls, Nz, cz, hs4, hs5, hs6⟩ := hsc
  obtain ⟨O_o, sk, hly, hOi⟩ := hlo
  obtain ⟨ht15, kn, ht16⟩ := hto
  have hnr := hgr.2.2.2
  have hT6 := hts.2
  show kG E_o X_o 3 0 0 w_o 0 [(0, .ref (ad 0)), (1, .int (iI x_o))] []
  refine k_aload_n h_o 0 dX6_accept_0 rfl rfl ?_
  refine k_iload_n h_o 1 dX6_accept_1 rfl rfl ?_
  refine k_callVX (As := [.int (iI x_o)]) (rest := []) h_o mX6_existingText kq_3_110 (c_X6_existingText hl0 hpo hts (by omega)) 0 hpo rfl rfl rfl (Nat.le_of_ble_eq_true rfl) ⟨rfl, rfl, ⟨(Nat.le_of_ble_eq_true rfl), (Nat.le_of_ble_eq_true rfl)⟩, ⟨(Nat.le_of_ble_eq_true rfl), (Nat.le_of_ble_eq_true rfl)⟩⟩ dX6_accept_2 (fun Ex wx hx => k_out h_o hr (by obtain ⟨e1, e2, e3⟩ := hx; subst e3; exact ⟨Or.inl ⟨e1, e2⟩, hst, kEx.rfl⟩) (by decide) (by decide)) (kcR fun z2_o w2_o hp => ?_)
  obtain ⟨rfl, hxT, rfl⟩ := hp
  have htxx := htx x_o.toNat (by omega)
  have htjx := htj x_o.toNat (by omega)
  have hTx := hT x_o.toNat (by omega)
  have hcx := htjx.2.2.1
  refine k_astore_n (lv' := [(2, .ref (ad (200 + 5 * x_o.toNat))), (0, .ref (ad 0)), (1, .int (iI x_o))]) h_o dX6_accept_5 rfl (by decide) rfl ?_
  refine k_aload_n h_o 1 dX6_accept_6 rfl rfl ?_
  refine k_get h_o 0 kf_X6_32 hpo rfl dX6_accept_7 ?_
  refine k_aload_n h_o 1 dX6_accept_10 rfl rfl ?_
  refine k_get h_o 0 kf_X6_12 hpo rfl dX6_accept_11 ?_
  refine k_aload_n h_o 0 dX6_accept_14 rfl rfl ?_
  refine k_get h_o (200 + 5 * x_o.toNat) kf_X6_117 htxx.1 rfl dX6_accept_15 ?_
  refine k_callV (As := [.ref (ad 1), .ref (ad (200 + 5 * x_o.toNat + 1))]) (rest := []) h_o mX1_lay kq_2_6 (c_X1_lay hl0 hly htxx.2.1 htjx.1 htjx.2.1 hgr hwf (by omega) hTx hcx hOi) 7 hly.1 rfl rfl rfl (Nat.le_of_ble_eq_true rfl) ⟨rfl, rfl, ⟨(Nat.le_of_ble_eq_true rfl), (Nat.le_of_ble_eq_true rfl)⟩, ⟨(Nat.le_of_ble_eq_true rfl), (Nat.le_of_ble_eq_true rfl)⟩⟩ dX6_accept_18 (kcV fun wq24 hp => ?_)
  obtain ⟨skq24, hlyq24, hexq24⟩ := hp
  have hOi2 := kOi_lay (lt := lts x_o.toNat) hwf hnr hcx hOi
  have hOc := m_lay_cnt (lt := lts x_o.toNat) (O := O_o) hwf hcx
  have hOl := m_lay_lc (lt := lts x_o.toNat) (O := O_o) hwf hcx
  have hoe := m_oe_lay (lt := lts x_o.toNat) O_o kO0 hwf hcx
  refine k_aload_n h_o 1 dX6_accept_21 rfl rfl ?_
  refine k_get h_o 0 kf_X6_32 ((hexq24 0 (by show ¬ (7 ≤ 0 ∧ 0 ≤ 14); omega)).trans hpo) rfl dX6_accept_22 ?_
  refine k_get h_o 7 kf_X6_165 hlyq24.1 rfl dX6_accept_25 ?_
  refine k_ifne h_o 39 (by omega) dX6_accept_28 (by decide) (fun h28_o => ?_) (fun h28_o => ?_)
  · refine k_aload_n h_o 0 dX6_accept_39 rfl rfl ?_
    refine k_aload_n h_o 1 dX6_accept_40 rfl rfl ?_
    refine k_get h_o 0 kf_X6_32 ((hexq24 0 (by show ¬ (7 ≤ 0 ∧ 0 ≤ 14); omega)).trans hpo) rfl dX6_accept_41 ?_
    refine k_callV (As := [.ref (ad 7)]) (rest := []) h_o mX4_keep kq_4_23 (c_X4_keep hl0 ((hexq24 (200 + 5 * x_o.toNat) (by show ¬ (7 ≤ (200 + 5 * x_o.toNat) ∧ (200 + 5 * x_o.toNat) ≤ 14); omega)).trans htxx.1) ((hexq24 (200 + 5 * x_o.toNat + 4) (by show ¬ (7 ≤ (200 + 5 * x_o.toNat + 4) ∧ (200 + 5 * x_o.toNat + 4) ≤ 14); omega)).trans htxx.2.2) hlyq24 ⟨hOc.1, hOc.2.1⟩ (by omega)) (200 + 5 * x_o.toNat) ((hexq24 (200 + 5 * x_o.toNat) (by show ¬ (7 ≤ (200 + 5 * x_o.toNat) ∧ (200 + 5 * x_o.toNat) ≤ 14); omega)).trans htxx.1) rfl rfl rfl (Nat.le_of_ble_eq_true rfl) ⟨rfl, rfl, ⟨(Nat.le_of_ble_eq_true rfl), (Nat.le_of_ble_eq_true rfl)⟩, ⟨(Nat.le_of_ble_eq_true rfl), (Nat.le_of_ble_eq_true rfl)⟩⟩ dX6_accept_44 (kcV fun w44_o hp => ?_)
    subst hp
    have hs1 := kSu.tx (t := x_o.toNat) (show kSu wq24 ad nr g_o T_o lts cs acs ams rel fnd Ns from ⟨hst.1.ly hlyq24 hOi2 hexq24, hst.2⟩) (by omega) (w2 := (kset (kset wq24 (200 + 5 * x_o.toNat) (ad (200 + 5 * x_o.toNat)) (ob 6 [.ref (ad (200 + 5 * x_o.toNat + 1)), .ref (ad (200 + 5 * x_o.toNat + 4)), .int (iI ((m_lay g_o nr (lts x_o.toNat) (cs x_o.toNat) O_o).1))])) (200 + 5 * x_o.toNat + 4) (ad (200 + 5 * x_o.toNat + 4)) (ai 95 (m_cpl (acs x_o.toNat) (m_lay g_o nr (lts x_o.toNat) (cs x_o.toNat) O_o).2.1 (m_lay g_o nr (lts x_o.toNat) (cs x_o.toNat) O_o).1)))) (lt := lts x_o.toNat) (N := Ns x_o.toNat) (c := cs x_o.toNat) (ac := m_cpl (acs x_o.toNat) (m_lay g_o nr (lts x_o.toNat) (cs x_o.toNat) O_o).2.1 (m_lay g_o nr (lts x_o.toNat) (cs x_o.toNat) O_o).1) (am := (m_lay g_o nr (lts x_o.toNat) (cs x_o.toNat) kO0).1) ⟨(by rw [← hoe.1.1]; exact ((kset_ne (by omega)).trans kset_eq)), ⟨((kset_ne (by omega)).trans ((kset_ne (by omega)).trans ((hexq24 (200 + 5 * x_o.toNat + 1) (by show ¬ (7 ≤ (200 + 5 * x_o.toNat + 1) ∧ (200 + 5 * x_o.toNat + 1) ≤ 14); omega)).trans htxx.2.1.1))), ((kset_ne (by omega)).trans ((kset_ne (by omega)).trans ((hexq24 (200 + 5 * x_o.toNat + 2) (by show ¬ (7 ≤ (200 + 5 * x_o.toNat + 2) ∧ (200 + 5 * x_o.toNat + 2) ≤ 14); omega)).trans htxx.2.1.2.1))), ((kset_ne (by omega)).trans ((kset_ne (by omega)).trans ((hexq24 (200 + 5 * x_o.toNat + 3) (by show ¬ (7 ≤ (200 + 5 * x_o.toNat + 3) ∧ (200 + 5 * x_o.toNat + 3) ≤ 14); omega)).trans htxx.2.1.2.2)))⟩, kset_eq⟩ ⟨htjx.1, htjx.2.1, hcx, (by rw [← hoe.1.1]; exact ⟨hOc.1, hOc.2.1⟩), fun p_o => by unfold m_cpl; split; exact hOi2.2.2.2 p_o; exact htjx.2.2.2.2 p_o⟩ hTx (fun xx hxx => (kset_ne (by omega)).trans (kset_ne (by omega)))
    rw [kup_id (f := lts), kup_id (f := cs), kup_id (f := Ns)] at hs1
    have hac2 : ∀ p_o : Nat, (p_o : Int) < (m_lay g_o nr (lts x_o.toNat) (cs x_o.toNat) kO0).1 → m_cpl (acs x_o.toNat) (m_lay g_o nr (lts x_o.toNat) (cs x_o.toNat) O_o).2.1 (m_lay g_o nr (lts x_o.toNat) (cs x_o.toNat) O_o).1 p_o = (m_lay g_o nr (lts x_o.toNat) (cs x_o.toNat) kO0).2.1 p_o := fun p_o hp => (if_pos (by rw [hoe.1.1]; exact hp)).trans (hoe.2.1 p_o (by rw [hoe.1.1]; exact hp))
    have hne0 : (m_lay g_o nr (lts x_o.toNat) (cs x_o.toNat) kO0).1 ≠ 0 := by rw [← hoe.1.1]; exact h28_o
    refine k_aload_n h_o 1 dX6_accept_47 rfl rfl ?_
    refine k_get h_o 0 kf_X6_32 ((kset_ne (by omega)).trans ((kset_ne (by omega)).trans ((hexq24 0 (by show ¬ (7 ≤ 0 ∧ 0 ≤ 14); omega)).trans hpo))) rfl dX6_accept_48 ?_
    refine k_get h_o 7 kf_X6_165 ((kset_ne (by omega)).trans ((kset_ne (by omega)).trans hlyq24.1)) rfl dX6_accept_51 ?_
    exact k_iret h_o hr.ret rfl (⟨_, rfl, hoe.1.1.symm, hxT, hne0, _, hac2, hs1, (kEx.trans (kEx.trans kEx.rfl (hexq24.sub kLk_Pk)) (kEx.trans (kEx.kset (Or.inr (by omega))) (kEx.kset (Or.inr (by omega)))))⟩) (by omega) (by omega) dX6_accept_54
  · exact k_throw0 (names := ["java/lang/RuntimeException", "java/lang/Exception"]) h_o hr (by decide +kernel) (by decide +kernel) kq_2_136 kq_1_11 kx1_ISE kx2_ISE kx3_ISE dX6_accept_31 dX6_accept_34 dX6_accept_35 dX6_accept_38 ⟨by decide, by decide, by decide, by decide⟩ (⟨Or.inr ⟨rfl, hxT, (by rw [← hoe.1.1]; omega)⟩, ⟨hst.1.ly hlyq24 hOi2 hexq24, hst.2⟩, (kEx.trans kEx.rfl (hexq24.sub kLk_Pk))⟩) (by decide) (by decide)

set_option maxHeartbeats 400000 in
set_option maxRecDepth 100000 in
theorem c_X6_faultOf {E_o : kE} {l_o : Launch} (hl0 : l_o.stackTraces = false) {w_o : kW} {ad : Nat → Nat} {nr : Nat} {g_o : Nat → Nat → Int} {T_o : Nat} {lts : Nat → Nat → Int} {cs : Nat → Int} {acs : Nat → Nat → Int} {ams : Nat → Int} {rel fnd : Int} {Ns : Nat → Nat → Nat} {x_o : Int} (hst : kSu w_o ad nr g_o T_o lts cs acs ams rel fnd Ns) (hxT : 0 ≤ x_o ∧ x_o < (T_o : Int)) : kM E_o l_o yX6_faultOf (.code yX6_faultOf cX6_faultOf 3 (some .char) :: kAL) { frames := 4, cells := 0, slots := 0, locals := 105 } 0 0 [.ref (ad 0), .ref (ad (200 + 5 * x_o.toNat))] w_o (pI (fun z_o w2_o => m_fv g_o nr (lts x_o.toNat) (cs x_o.toNat) (acs x_o.toNat) (ams x_o.toNat) = z_o ∧ kSv w_o w2_o ad nr g_o T_o lts cs acs ams rel fnd Ns)) := by
  refine kM_of hl0 (by decide +kernel) (Nat.le_of_ble_eq_true rfl) ?_
  intro X_o hXl h_o hr hin
  subst hXl
  obtain ⟨⟨hpo, hgr, hwf, hts, hsc, hlo, hto, htx, htj⟩, hT⟩ := id hst
  obtain ⟨ls, Nz, cz, hs4, hs5, hs6⟩ := hsc
  obtain ⟨O_o, sk, hly, hOi⟩ := hlo
  obtain ⟨ht15, kn, ht16⟩ := hto
  have hnr := hgr.2.2.2
  have hT6 := hts.2
  show kG E_o X_o 3 0 0 w_o 0 [(0, .ref (ad 0)), (1, .ref (ad (200 + 5 * x_o.toNat)))] []
  have htxx := htx x_o.toNat (by omega)
  have htjx := htj x_o.toNat (by omega)
  have hTx := hT x_o.toNat (by omega)
  have hcx := htjx.2.2.1
  have ham := htjx.2.2.2.1
  refine k_aload_n h_o 1 dX6_faultOf_0 rfl rfl ?_
  refine k_get h_o (200 + 5 * x_o.toNat) kf_X6_117 htxx.1 rfl dX6_faultOf_1 ?_
  refine k_callV (As := []) (rest := []) h_o mX3_treesOfAll kq_1_173 (c_X3_treesOfAll hl0 htxx.2.1 htjx.1 htjx.2.1 hcx) (200 + 5 * x_o.toNat + 1) htxx.2.1.1 rfl rfl rfl (Nat.le_of_ble_eq_true rfl) ⟨rfl, rfl, ⟨(Nat.le_of_ble_eq_true rfl), (Nat.le_of_ble_eq_true rfl)⟩, ⟨(Nat.le_of_ble_eq_true rfl), (Nat.le_of_ble_eq_true rfl)⟩⟩ dX6_faultOf_4 (kcI fun z4_o w4_o hp => ?_)
  obtain ⟨rfl, rfl⟩ := hp
  refine k_top (z' := ((m_TT g_o nr (lts x_o.toNat) 10 0 (cs x_o.toNat - 1) : Nat) : Int)) (kTr_all hTx hcx) ?_
  refine k_istore_n (lv' := [(2, .int (iI ((m_TT g_o nr (lts x_o.toNat) 10 0 (cs x_o.toNat - 1) : Nat) : Int))), (0, .ref (ad 0)), (1, .ref (ad (200 + 5 * x_o.toNat)))]) h_o dX6_faultOf_7 rfl (by decide) rfl ?_
  refine k_iload_n h_o 0 dX6_faultOf_8 rfl rfl ?_
  refine k_ifne h_o 15 (m_natrg m_TT_le) dX6_faultOf_9 (by decide) (fun h9_o => ?_) (fun h9_o => ?_)
  · refine k_iload_n h_o 0 dX6_faultOf_15 rfl rfl ?_
    refine k_iconst h_o dX6_faultOf_16 ?_
    refine k_icmp_le h_o 23 (m_natrg m_TT_le) (by decide) dX6_faultOf_17 (by decide) (fun h17_o => ?_) (fun h17_o => ?_)
    · refine k_aload_n h_o 2 dX6_faultOf_23 rfl rfl ?_
      refine k_get h_o (200 + 5 * x_o.toNat) kf_X6_233 htxx.1 rfl dX6_faultOf_24 ?_
      refine k_ifne h_o 33 (by omega) dX6_faultOf_27 (by decide) (fun h27_o => ?_) (fun h27_o => ?_)
      · refine k_aload_n h_o 1 dX6_faultOf_33 rfl rfl ?_
        refine k_get h_o 0 kf_X6_32 hpo rfl dX6_faultOf_34 ?_
        refine k_aload_n h_o 1 dX6_faultOf_37 rfl rfl ?_
        refine k_get h_o 0 kf_X6_12 hpo rfl dX6_faultOf_38 ?_
        refine k_aload_n h_o 2 dX6_faultOf_41 rfl rfl ?_
        refine k_get h_o (200 + 5 * x_o.toNat) kf_X6_117 htxx.1 rfl dX6_faultOf_42 ?_
        refine k_callV (As := [.ref (ad 1), .ref (ad (200 + 5 * x_o.toNat + 1))]) (rest := []) h_o mX1_lay kq_2_6 (c_X1_lay hl0 hly htxx.2.1 htjx.1 htjx.2.1 hgr hwf (by omega) hTx hcx hOi) 7 hly.1 rfl rfl rfl (Nat.le_of_ble_eq_true rfl) ⟨rfl, rfl, ⟨(Nat.le_of_ble_eq_true rfl), (Nat.le_of_ble_eq_true rfl)⟩, ⟨(Nat.le_of_ble_eq_true rfl), (Nat.le_of_ble_eq_true rfl)⟩⟩ dX6_faultOf_45 (kcV fun wq25 hp => ?_)
        obtain ⟨skq25, hlyq25, hexq25⟩ := hp
        have hOi2 := kOi_lay (lt := lts x_o.toNat) hwf hnr hcx hOi
        have hOc := m_lay_cnt (lt := lts x_o.toNat) (O := O_o) hwf hcx
        have hOl := m_lay_lc (lt := lts x_o.toNat) (O := O_o) hwf hcx
        have hoe := m_oe_lay (lt := lts x_o.toNat) O_o kO0 hwf hcx
        refine k_aload_n h_o 2 dX6_faultOf_48 rfl rfl ?_
        refine k_aload_n h_o 1 dX6_faultOf_49 rfl rfl ?_
        refine k_get h_o 0 kf_X6_32 ((hexq25 0 (by show ¬ (7 ≤ 0 ∧ 0 ≤ 14); omega)).trans hpo) rfl dX6_faultOf_50 ?_
        refine k_callV (As := [.ref (ad 7)]) (rest := []) h_o mX4_hasAccepted kq_4_40 (c_X4_hasAccepted hl0 ((hexq25 (200 + 5 * x_o.toNat) (by show ¬ (7 ≤ (200 + 5 * x_o.toNat) ∧ (200 + 5 * x_o.toNat) ≤ 14); omega)).trans htxx.1) ((hexq25 (200 + 5 * x_o.toNat + 4) (by show ¬ (7 ≤ (200 + 5 * x_o.toNat + 4) ∧ (200 + 5 * x_o.toNat + 4) ≤ 14); omega)).trans htxx.2.2) hlyq25 ⟨hOc.1, hOc.2.1⟩ (by omega) htjx.2.2.2.1 hOi2.2.2.2 htjx.2.2.2.2) (200 + 5 * x_o.toNat) ((hexq25 (200 + 5 * x_o.toNat) (by show ¬ (7 ≤ (200 + 5 * x_o.toNat) ∧ (200 + 5 * x_o.toNat) ≤ 14); omega)).trans htxx.1) rfl rfl rfl (Nat.le_of_ble_eq_true rfl) ⟨rfl, rfl, ⟨(Nat.le_of_ble_eq_true rfl), (Nat.le_of_ble_eq_true rfl)⟩, ⟨(Nat.le_of_ble_eq_true rfl), (Nat.le_of_ble_eq_true rfl)⟩⟩ dX6_faultOf_53 (kcI fun z53_o w53_o hp => ?_)
        obtain ⟨rfl, rfl⟩ := hp
        refine k_ifBeq h_o 64 dX6_faultOf_56 (by decide) (fun h56_o => ?_) (fun h56_o => ?_)
        · refine k_bipush h_o dX6_faultOf_64 (by decide) ?_
          exact k_iret h_o hr rfl (⟨_, rfl, (by unfold m_fv; rw [if_neg (by omega), if_neg (by omega), if_neg (by omega), if_neg (fun q_o => h56_o ((m_ok_oe hoe).mpr q_o))]), ⟨hst.1.ly hlyq25 hOi2 hexq25, hst.2⟩, (kEx.trans kEx.rfl (hexq25.sub kLk_Pk))⟩) (by omega) (by omega) dX6_faultOf_66
        · refine k_bipush h_o dX6_faultOf_59 (by decide) ?_
          refine k_goto h_o 66 dX6_faultOf_61 (by decide) ?_
          exact k_iret h_o hr rfl (⟨_, rfl, (by unfold m_fv; rw [if_neg (by omega), if_neg (by omega), if_neg (by omega), if_pos ((m_ok_oe hoe).mp h56_o)]), ⟨hst.1.ly hlyq25 hOi2 hexq25, hst.2⟩, (kEx.trans kEx.rfl (hexq25.sub kLk_Pk))⟩) (by omega) (by omega) dX6_faultOf_66
      · refine k_bipush h_o dX6_faultOf_30 (by decide) ?_
        exact k_iret h_o hr rfl (⟨_, rfl, (by unfold m_fv; rw [if_neg (by omega), if_neg (by omega), if_pos (by omega)]), hst, kEx.rfl⟩) (by omega) (by omega) dX6_faultOf_32
    · refine k_bipush h_o dX6_faultOf_20 (by decide) ?_
      exact k_iret h_o hr rfl (⟨_, rfl, (by unfold m_fv; rw [if_neg (by omega), if_pos (by omega)]), hst, kEx.rfl⟩) (by omega) (by omega) dX6_faultOf_22
  · refine k_bipush h_o dX6_faultOf_12 (by decide) ?_
    exact k_iret h_o hr rfl (⟨_, rfl, (by unfold m_fv; rw [if_pos (by omega)]), hst, kEx.rfl⟩) (by omega) (by omega) dX6_faultOf_14

set_option maxHeartbeats 400000 in
set_option maxRecDepth 100000 in
theorem c_X6_fault {E_o : kE} {l_o : Launch} (hl0 : l_o.stackTraces = false) {w_o : kW} {ad : Nat → Nat} {nr : Nat} {g_o : Nat → Nat → Int} {T_o : Nat} {lts : Nat → Nat → Int} {cs : Nat → Int} {acs : Nat → Nat → Int} {ams : Nat → Int} {rel fnd : Int} {Ns : Nat → Nat → Nat} {x_o : Int} (hst : kSu w_o ad nr g_o T_o lts cs acs ams rel fnd Ns) (hx : -2147483648 ≤ x_o ∧ x_o < 2147483648) : kMX E_o l_o yX6_fault (.code yX6_fault cX6_fault 2 (some .char) :: kAL) { frames := 7, cells := 1, slots := 6, locals := 127 } 1 6 [.ref (ad 0), .int (iI x_o)] w_o (pI (fun z_o w2_o => m_fv g_o nr (lts x_o.toNat) (cs x_o.toNat) (acs x_o.toNat) (ams x_o.toNat) = z_o ∧ (0 ≤ x_o ∧ x_o < (T_o : Int)) ∧ kSv w_o w2_o ad nr g_o T_o lts cs acs ams rel fnd Ns)) (fun Ex w2_o => (Ex = "java/lang/IndexOutOfBoundsException" ∧ ¬ (0 ≤ x_o ∧ x_o < (T_o : Int))) ∧ kSv w_o w2_o ad nr g_o T_o lts cs acs ams rel fnd Ns) := by
  refine kMX_of hl0 (by decide +kernel) (Nat.le_of_ble_eq_true rfl) ?_
  intro X_o hXl h_o hr
  subst hXl
  obtain ⟨⟨hpo, hgr, hwf, hts, hsc, hlo, hto, htx, htj⟩, hT⟩ := id hst
  obtain ⟨ls, Nz, cz, hs4, hs5, hs6⟩ := hsc
  obtain ⟨O_o, sk, hly, hOi⟩ := hlo
  obtain ⟨ht15, kn, ht16⟩ := hto
  have hnr := hgr.2.2.2
  have hT6 := hts.2
  show kG E_o X_o 2 0 0 w_o 0 [(0, .ref (ad 0)), (1, .int (iI x_o))] []
  refine k_aload_n h_o 0 dX6_fault_0 rfl rfl ?_
  refine k_aload_n h_o 0 dX6_fault_1 rfl rfl ?_
  refine k_iload_n h_o 1 dX6_fault_2 rfl rfl ?_
  refine k_callVX (As := [.int (iI x_o)]) (rest := [.ref (ad 0)]) h_o mX6_existingText kq_3_110 (c_X6_existingText hl0 hpo hts (by omega)) 0 hpo rfl rfl rfl (Nat.le_of_ble_eq_true rfl) ⟨rfl, rfl, ⟨(Nat.le_of_ble_eq_true rfl), (Nat.le_of_ble_eq_true rfl)⟩, ⟨(Nat.le_of_ble_eq_true rfl), (Nat.le_of_ble_eq_true rfl)⟩⟩ dX6_fault_3 (fun Ex wx hx => k_out h_o hr (by obtain ⟨e1, e2, e3⟩ := hx; subst e3; exact ⟨⟨e1, e2⟩, hst, kEx.rfl⟩) (by decide) (by decide)) (kcR fun z3_o w3_o hp => ?_)
  obtain ⟨rfl, hxT, rfl⟩ := hp
  have htxx := htx x_o.toNat (by omega)
  have htjx := htj x_o.toNat (by omega)
  have hTx := hT x_o.toNat (by omega)
  have hcx := htjx.2.2.1
  refine k_callV (As := [.ref (ad (200 + 5 * x_o.toNat))]) (rest := []) h_o mX6_faultOf kq_4_36 (c_X6_faultOf hl0 hst hxT) 0 hpo rfl rfl rfl (Nat.le_of_ble_eq_true rfl) ⟨rfl, rfl, ⟨(Nat.le_of_ble_eq_true rfl), (Nat.le_of_ble_eq_true rfl)⟩, ⟨(Nat.le_of_ble_eq_true rfl), (Nat.le_of_ble_eq_true rfl)⟩⟩ dX6_fault_6 (kcI fun z6_o wF hp => ?_)
  obtain ⟨rfl, hstF, hexF⟩ := hp
  exact k_iret h_o hr.ret (iI_chn m_fv_rg) (⟨_, rfl, rfl, hxT, hstF, (kEx.trans kEx.rfl hexF)⟩) (by omega) (by omega) dX6_fault_9

set_option maxHeartbeats 400000 in
set_option maxRecDepth 100000 in
theorem c_X6_countClean {E_o : kE} {l_o : Launch} (hl0 : l_o.stackTraces = false) {w_o : kW} {ad : Nat → Nat} {nr : Nat} {g_o : Nat → Nat → Int} {T_o : Nat} {lts : Nat → Nat → Int} {cs : Nat → Int} {acs : Nat → Nat → Int} {ams : Nat → Int} {rel fnd : Int} {Ns : Nat → Nat → Nat}  (hst : kSu w_o ad nr g_o T_o lts cs acs ams rel fnd Ns)  : kM E_o l_o yX6_countClean (.code yX6_countClean cX6_countClean 6 (some .int) :: kAL) { frames := 5, cells := 0, slots := 0, locals := 127 } 0 0 [.ref (ad 0)] w_o (pI (fun z_o w2_o => m_tc (fun t_o => t_o < T_o ∧ m_fv g_o nr (lts t_o) (cs t_o) (acs t_o) (ams t_o) = 45) 6 = z_o ∧ kSv w_o w2_o ad nr g_o T_o lts cs acs ams rel fnd Ns)) := by
  refine kM_of hl0 (by decide +kernel) (Nat.le_of_ble_eq_true rfl) ?_
  intro X_o hXl h_o hr hin
  subst hXl
  obtain ⟨⟨hpo, hgr, hwf, hts, hsc, hlo, hto, htx, htj⟩, hT⟩ := id hst
  obtain ⟨ls, Nz, cz, hs4, hs5, hs6⟩ := hsc
  obtain ⟨O_o, sk, hly, hOi⟩ := hlo
  obtain ⟨ht15, kn, ht16⟩ := hto
  have hnr := hgr.2.2.2
  have hT6 := hts.2
  show kG E_o X_o 6 0 0 w_o 0 [(0, .ref (ad 0))] []
  refine k_iconst h_o dX6_countClean_0 ?_
  refine k_istore_n (lv' := [(1, .int (iI 0)), (0, .ref (ad 0))]) h_o dX6_countClean_1 rfl (by decide) rfl ?_
  refine k_aload_n h_o 1 dX6_countClean_2 rfl rfl ?_
  refine k_get h_o 0 kf_X6_18 hpo rfl dX6_countClean_3 ?_
  refine k_astore_n (lv' := [(2, .ref (ad 3)), (1, .int (iI 0)), (0, .ref (ad 0))]) h_o dX6_countClean_6 rfl (by decide) rfl ?_
  refine k_aload_n h_o 0 dX6_countClean_7 rfl rfl ?_
  refine k_alen h_o 3 hts.1 rfl dX6_countClean_8 ?_
  show kG E_o X_o 6 _ _ _ _ _ (.int (iI 6) :: _)
  refine k_istore_n (lv' := [(3, .int (iI 6)), (2, .ref (ad 3)), (1, .int (iI 0)), (0, .ref (ad 0))]) h_o dX6_countClean_9 rfl (by decide) rfl ?_
  refine k_iconst h_o dX6_countClean_10 ?_
  refine k_istore (lv' := [(4, .int (iI 0)), (3, .int (iI 6)), (2, .ref (ad 3)), (1, .int (iI 0)), (0, .ref (ad 0))]) h_o dX6_countClean_11 (by decide) rfl ?_
  have L13 : ∀ (mm : Nat) (y_o : Int) (w8_o : kW), (0 ≤ y_o ∧ y_o ≤ 6) → (kSu w8_o ad nr g_o T_o lts cs acs ams rel fnd Ns) → (kEx w_o w8_o kPk) → (6 - y_o < (mm : Int)) → kG E_o X_o 6 0 0 w8_o 13 [(0, .ref (ad 0)), (1, .int (iI (m_tc (fun t_o => t_o < T_o ∧ m_fv g_o nr (lts t_o) (cs t_o) (acs t_o) (ams t_o) = 45) y_o.toNat))), (2, .ref (ad 3)), (3, .int (iI 6)), (4, .int (iI y_o))] [] := by
    intro mm
    induction mm with
    | zero =>
      intro y_o w8_o hy hs8 hx8 hm_o
      exfalso; omega
    | succ mm ih13 =>
      intro y_o w8_o hy hs8 hx8 hm_o
      refine k_iload h_o 4 dX6_countClean_13 rfl ?_
      refine k_iload_n h_o 3 dX6_countClean_15 rfl rfl ?_
      refine k_icmp_ge h_o 50 (by omega) (by decide) dX6_countClean_16 (by decide) (fun h16_o => ?_) (fun h16_o => ?_)
      · refine k_iload_n h_o 1 dX6_countClean_50 rfl rfl ?_
        exact k_iret h_o hr rfl (⟨_, rfl, (by rw [show y_o.toNat = 6 by omega]), hs8, hx8⟩) (by omega) (by omega) dX6_countClean_51
      · refine k_aload_n h_o 2 dX6_countClean_19 rfl rfl ?_
        refine k_iload h_o 4 dX6_countClean_20 rfl ?_
        refine k_aald h_o 3 hs8.1.2.2.2.1.1 rfl (by omega) (by decide) dX6_countClean_22 ?_
        by_cases hxn : y_o < (T_o : Int)
        · refine k_topQ (a := ad (200 + 5 * y_o.toNat)) (if_pos (by omega)) ?_
          have hyT : y_o.toNat < T_o := by omega
          refine k_astore (lv' := [(5, .ref (ad (200 + 5 * y_o.toNat))), (0, .ref (ad 0)), (1, .int (iI (m_tc (fun t_o => t_o < T_o ∧ m_fv g_o nr (lts t_o) (cs t_o) (acs t_o) (ams t_o) = 45) y_o.toNat))), (2, .ref (ad 3)), (3, .int (iI 6)), (4, .int (iI y_o))]) h_o dX6_countClean_23 (by decide) rfl ?_
          refine k_aload h_o 0 dX6_countClean_25 rfl ?_
          refine k_ifnull h_o dX6_countClean_27 ?_
          refine k_aload_n h_o 1 dX6_countClean_30 rfl rfl ?_
          refine k_aload h_o 0 dX6_countClean_31 rfl ?_
          refine k_callV (As := [.ref (ad (200 + 5 * y_o.toNat))]) (rest := []) h_o mX6_faultOf kq_4_36 (c_X6_faultOf hl0 hs8 ⟨hy.1, hxn⟩) 0 hs8.1.1 rfl rfl rfl (Nat.le_of_ble_eq_true rfl) ⟨rfl, rfl, ⟨(Nat.le_of_ble_eq_true rfl), (Nat.le_of_ble_eq_true rfl)⟩, ⟨(Nat.le_of_ble_eq_true rfl), (Nat.le_of_ble_eq_true rfl)⟩⟩ dX6_countClean_33 (kcI fun z33_o wF hp => ?_)
          obtain ⟨rfl, hstF, hexF⟩ := hp
          refine k_bipush h_o dX6_countClean_36 (by decide) ?_
          refine k_icmp_ne h_o 44 (by have := m_fv_rg (g := g_o) (nr := nr) (lt := lts y_o.toNat) (c := cs y_o.toNat) (ac := acs y_o.toNat) (am := ams y_o.toNat); omega) (by decide) dX6_countClean_38 (by decide) (fun h38_o => ?_) (fun h38_o => ?_)
          · refine k_iinc (lv' := [(4, .int (iI (y_o + 1))), (5, .ref (ad (200 + 5 * y_o.toNat))), (0, .ref (ad 0)), (1, .int (iI (m_tc (fun t_o => t_o < T_o ∧ m_fv g_o nr (lts t_o) (cs t_o) (acs t_o) (ams t_o) = 45) y_o.toNat))), (2, .ref (ad 3)), (3, .int (iI 6))]) h_o 5 dX6_countClean_44 rfl (by decide) rfl ?_
            refine k_goto h_o 13 dX6_countClean_47 (by decide) ?_
            refine k_sub (lv' := [(0, .ref (ad 0)), (1, .int (iI (m_tc (fun t_o => t_o < T_o ∧ m_fv g_o nr (lts t_o) (cs t_o) (acs t_o) (ams t_o) = 45) y_o.toNat))), (2, .ref (ad 3)), (3, .int (iI 6)), (4, .int (iI (y_o + 1)))]) [2, 3, 4, 5, 0] rfl ?_
            rw [show (m_tc (fun t_o => t_o < T_o ∧ m_fv g_o nr (lts t_o) (cs t_o) (acs t_o) (ams t_o) = 45) y_o.toNat : Int) = m_tc (fun t_o => t_o < T_o ∧ m_fv g_o nr (lts t_o) (cs t_o) (acs t_o) (ams t_o) = 45) (y_o + 1).toNat from (m_tc_f (P := (fun t_o => t_o < T_o ∧ m_fv g_o nr (lts t_o) (cs t_o) (acs t_o) (ams t_o) = 45)) hy.1 (fun q_o => h38_o q_o.2)).symm]
            exact ih13 (y_o + 1) wF (by omega) hstF (kEx.trans hx8 hexF) (by omega)
          · refine k_iinc (lv' := [(1, .int (iI (m_tc (fun t_o => t_o < T_o ∧ m_fv g_o nr (lts t_o) (cs t_o) (acs t_o) (ams t_o) = 45) y_o.toNat + 1))), (5, .ref (ad (200 + 5 * y_o.toNat))), (0, .ref (ad 0)), (2, .ref (ad 3)), (3, .int (iI 6)), (4, .int (iI y_o))]) h_o 2 dX6_countClean_41 rfl (by decide) rfl ?_
            refine k_iinc (lv' := [(4, .int (iI (y_o + 1))), (1, .int (iI (m_tc (fun t_o => t_o < T_o ∧ m_fv g_o nr (lts t_o) (cs t_o) (acs t_o) (ams t_o) = 45) y_o.toNat + 1))), (5, .ref (ad (200 + 5 * y_o.toNat))), (0, .ref (ad 0)), (2, .ref (ad 3)), (3, .int (iI 6))]) h_o 5 dX6_countClean_44 rfl (by decide) rfl ?_
            refine k_goto h_o 13 dX6_countClean_47 (by decide) ?_
            refine k_sub (lv' := [(0, .ref (ad 0)), (1, .int (iI (m_tc (fun t_o => t_o < T_o ∧ m_fv g_o nr (lts t_o) (cs t_o) (acs t_o) (ams t_o) = 45) y_o.toNat + 1))), (2, .ref (ad 3)), (3, .int (iI 6)), (4, .int (iI (y_o + 1)))]) [3, 1, 4, 5, 0] rfl ?_
            rw [show (m_tc (fun t_o => t_o < T_o ∧ m_fv g_o nr (lts t_o) (cs t_o) (acs t_o) (ams t_o) = 45) y_o.toNat + 1 : Int) = m_tc (fun t_o => t_o < T_o ∧ m_fv g_o nr (lts t_o) (cs t_o) (acs t_o) (ams t_o) = 45) (y_o + 1).toNat from (m_tc_t (P := (fun t_o => t_o < T_o ∧ m_fv g_o nr (lts t_o) (cs t_o) (acs t_o) (ams t_o) = 45)) hy.1 ⟨hyT, by omega⟩).symm]
            exact ih13 (y_o + 1) wF (by omega) hstF (kEx.trans hx8 hexF) (by omega)
        · refine k_topN (if_neg (by omega)) ?_
          refine k_astoreN (lv' := [(5, .null), (0, .ref (ad 0)), (1, .int (iI (m_tc (fun t_o => t_o < T_o ∧ m_fv g_o nr (lts t_o) (cs t_o) (acs t_o) (ams t_o) = 45) y_o.toNat))), (2, .ref (ad 3)), (3, .int (iI 6)), (4, .int (iI y_o))]) h_o dX6_countClean_23 (by decide) rfl ?_
          refine k_aloadN h_o 0 dX6_countClean_25 rfl ?_
          refine k_ifnullN h_o 44 dX6_countClean_27 (by decide) ?_
          refine k_iinc (lv' := [(4, .int (iI (y_o + 1))), (5, .null), (0, .ref (ad 0)), (1, .int (iI (m_tc (fun t_o => t_o < T_o ∧ m_fv g_o nr (lts t_o) (cs t_o) (acs t_o) (ams t_o) = 45) y_o.toNat))), (2, .ref (ad 3)), (3, .int (iI 6))]) h_o 5 dX6_countClean_44 rfl (by decide) rfl ?_
          refine k_goto h_o 13 dX6_countClean_47 (by decide) ?_
          refine k_sub (lv' := [(0, .ref (ad 0)), (1, .int (iI (m_tc (fun t_o => t_o < T_o ∧ m_fv g_o nr (lts t_o) (cs t_o) (acs t_o) (ams t_o) = 45) y_o.toNat))), (2, .ref (ad 3)), (3, .int (iI 6)), (4, .int (iI (y_o + 1)))]) [2, 3, 4, 5, 0] rfl ?_
          rw [show (m_tc (fun t_o => t_o < T_o ∧ m_fv g_o nr (lts t_o) (cs t_o) (acs t_o) (ams t_o) = 45) y_o.toNat : Int) = m_tc (fun t_o => t_o < T_o ∧ m_fv g_o nr (lts t_o) (cs t_o) (acs t_o) (ams t_o) = 45) (y_o + 1).toNat from (m_tc_f (P := (fun t_o => t_o < T_o ∧ m_fv g_o nr (lts t_o) (cs t_o) (acs t_o) (ams t_o) = 45)) hy.1 (fun q_o => by have := q_o.1; omega)).symm]
          exact ih13 (y_o + 1) w8_o (by omega) hs8 hx8 (by omega)
  refine k_sub (lv' := [(0, .ref (ad 0)), (1, .int (iI 0)), (2, .ref (ad 3)), (3, .int (iI 6)), (4, .int (iI 0))]) [4, 3, 2, 1, 0] rfl ?_
  exact L13 ((6 - 0 : Int).toNat + 1) 0 w_o (by omega) hst kEx.rfl (by omega)

set_option maxHeartbeats 400000 in
set_option maxRecDepth 100000 in
theorem c_X6_release {E_o : kE} {l_o : Launch} (hl0 : l_o.stackTraces = false) {w_o : kW} {ad : Nat → Nat} {nr : Nat} {g_o : Nat → Nat → Int} {T_o : Nat} {lts : Nat → Nat → Int} {cs : Nat → Int} {acs : Nat → Nat → Int} {ams : Nat → Int} {rel fnd : Int} {Ns : Nat → Nat → Nat}  (hst : kSu w_o ad nr g_o T_o lts cs acs ams rel fnd Ns)  : kMX E_o l_o yX6_release (.code yX6_release cX6_release 1 (some .int) :: kAL) { frames := 6, cells := 1, slots := 6, locals := 152 } 1 6 [.ref (ad 0)] w_o (pI (fun z_o w2_o => rel + 1 = z_o ∧ (T_o ≠ 0 ∧ m_tc (fun t_o => t_o < T_o ∧ m_fv g_o nr (lts t_o) (cs t_o) (acs t_o) (ams t_o) = 45) 6 = (T_o : Int)) ∧ kSv w_o w2_o ad nr g_o T_o lts cs acs ams (rel + 1) fnd Ns)) (fun Ex w2_o => ((Ex = "java/lang/IllegalStateException" ∧ T_o = 0) ∨ (Ex = "java/lang/UnsupportedOperationException" ∧ T_o ≠ 0 ∧ m_tc (fun t_o => t_o < T_o ∧ m_fv g_o nr (lts t_o) (cs t_o) (acs t_o) (ams t_o) = 45) 6 ≠ (T_o : Int))) ∧ kSv w_o w2_o ad nr g_o T_o lts cs acs ams rel fnd Ns) := by
  refine kMX_of hl0 (by decide +kernel) (Nat.le_of_ble_eq_true rfl) ?_
  intro X_o hXl h_o hr
  subst hXl
  obtain ⟨⟨hpo, hgr, hwf, hts, hsc, hlo, hto, htx, htj⟩, hT⟩ := id hst
  obtain ⟨ls, Nz, cz, hs4, hs5, hs6⟩ := hsc
  obtain ⟨O_o, sk, hly, hOi⟩ := hlo
  obtain ⟨ht15, kn, ht16⟩ := hto
  have hnr := hgr.2.2.2
  have hT6 := hts.2
  show kG E_o X_o 1 0 0 w_o 0 [(0, .ref (ad 0))] []
  refine k_aload_n h_o 0 dX6_release_0 rfl rfl ?_
  refine k_get h_o 0 kf_X6_43 hpo rfl dX6_release_1 ?_
  refine k_ifne h_o 15 (by omega) dX6_release_4 (by decide) (fun h4_o => ?_) (fun h4_o => ?_)
  · refine k_aload_n h_o 0 dX6_release_15 rfl rfl ?_
    refine k_callV (As := []) (rest := []) h_o mX6_countClean kq_4_51 (c_X6_countClean hl0 hst) 0 hpo rfl rfl rfl (Nat.le_of_ble_eq_true rfl) ⟨rfl, rfl, ⟨(Nat.le_of_ble_eq_true rfl), (Nat.le_of_ble_eq_true rfl)⟩, ⟨(Nat.le_of_ble_eq_true rfl), (Nat.le_of_ble_eq_true rfl)⟩⟩ dX6_release_16 (kcI fun z16_o wC hp => ?_)
    obtain ⟨rfl, hstC, hexC⟩ := hp
    refine k_aload_n h_o 0 dX6_release_19 rfl rfl ?_
    refine k_get h_o 0 kf_X6_43 hstC.1.1 rfl dX6_release_20 ?_
    refine k_icmp_eq h_o 34 (by have := m_tc_rg (P := (fun t_o => t_o < T_o ∧ m_fv g_o nr (lts t_o) (cs t_o) (acs t_o) (ams t_o) = 45)) 6; omega) (by omega) dX6_release_23 (by decide) (fun h23_o => ?_) (fun h23_o => ?_)
    · refine k_aload_n h_o 0 dX6_release_34 rfl rfl ?_
      refine k_dup h_o dX6_release_35 rfl ?_
      refine k_get h_o 0 kf_X6_47 hstC.1.1 rfl dX6_release_36 ?_
      refine k_iconst h_o dX6_release_39 ?_
      refine k_iadd h_o dX6_release_40 ?_
      refine k_put (fs' := [.ref (ad 1), .ref (ad 3), .ref (ad 4), .ref (ad 7), .ref (ad 15), .int (iI (T_o : Int)), .int (iI (rel + 1)), .long (lI fnd)]) h_o 0 kf_X6_47 kt_X6_6 hstC.1.1 rfl rfl (Nat.le_of_ble_eq_true rfl) rfl dX6_release_41 ?_
      refine k_aload_n h_o 0 dX6_release_44 rfl rfl ?_
      refine k_get h_o 0 kf_X6_47 kset_eq rfl dX6_release_45 ?_
      exact k_iret h_o hr.ret rfl (⟨_, rfl, rfl, ⟨(by omega), h23_o⟩, ⟨hstC.1.po kset_eq (kEx.kset rfl), hstC.2⟩, (hexC.trans (kEx.kset (Or.inl (by decide))))⟩) (by omega) (by omega) dX6_release_48
    · exact k_throw0 (names := ["java/lang/RuntimeException", "java/lang/Exception"]) h_o hr (by decide +kernel) (by decide +kernel) kq_3_170 kq_1_19 kx1_UOE kx2_UOE kx3_UOE dX6_release_26 dX6_release_29 dX6_release_30 dX6_release_33 ⟨by decide, by decide, by decide, by decide⟩ (⟨Or.inr ⟨rfl, (by omega), h23_o⟩, hstC, hexC⟩) (by decide) (by decide)
  · exact k_throw0 (names := ["java/lang/RuntimeException", "java/lang/Exception"]) h_o hr (by decide +kernel) (by decide +kernel) kq_2_136 kq_1_11 kx1_ISE kx2_ISE kx3_ISE dX6_release_7 dX6_release_10 dX6_release_11 dX6_release_14 ⟨by decide, by decide, by decide, by decide⟩ (⟨Or.inl ⟨rfl, (by omega)⟩, hst, kEx.rfl⟩) (by decide) (by decide)
