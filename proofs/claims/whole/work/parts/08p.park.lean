set_option maxHeartbeats 400000 in
set_option maxRecDepth 100000 in
theorem c_X6_isSoundText {E_o : kE} {l_o : Launch} (hl0 : l_o.stackTraces = false) {w_o : kW} {ad : Nat → Nat} {nr : Nat} {g_o : Nat → Nat → Int} {T_o : Nat} {lts : Nat → Nat → Int} {cs : Nat → Int} {acs : Nat → Nat → Int} {ams : Nat → Int} {rel fnd : Int} {Ns : Nat → Nat → Nat} {x_o : Int} (hst : kSu w_o ad nr g_o T_o lts cs acs ams rel fnd Ns) (hxT : 0 ≤ x_o ∧ x_o < (T_o : Int)) : kM E_o l_o yX6_isSoundText (.code yX6_isSoundText cX6_isSoundText 3 (some .boolean) :: kAL) { frames := 104, cells := 0, slots := 0, locals := 2962 } 0 0 [.ref (ad 0), .ref (ad (200 + 5 * x_o.toNat + 1))] w_o (pI (fun z_o w2_o => 1 = z_o ∧ kSv w_o w2_o ad nr g_o T_o lts cs acs ams rel fnd Ns)) := by
  refine kM_of hl0 (by decide +kernel) (Nat.le_of_ble_eq_true rfl) ?_
  intro X_o hXl h_o hr hin
  subst hXl
  obtain ⟨⟨hpo, hgr, hwf, hts, hsc, hlo, hto, htx, htj⟩, hT⟩ := id hst
  obtain ⟨ls, Nz, cz, hs4, hs5, hs6⟩ := hsc
  obtain ⟨O_o, sk, hly, hOi⟩ := hlo
  obtain ⟨ht15, kn, ht16⟩ := hto
  have hnr := hgr.2.2.2
  have hT6 := hts.2
  show kG E_o X_o 3 0 0 w_o 0 [(0, .ref (ad 0)), (1, .ref (ad (200 + 5 * x_o.toNat + 1)))] []
  have htxx := htx x_o.toNat (by omega)
  have htjx := htj x_o.toNat (by omega)
  have hTx := hT x_o.toNat (by omega)
  have hcx := htjx.2.2.1
  have ham := htjx.2.2.2.1
  refine k_aload_n h_o 1 dX6_isSoundText_0 rfl rfl ?_
  refine k_callV (As := []) (rest := []) h_o mX3_treesOfAll kq_1_173 (c_X3_treesOfAll hl0 htxx.2.1 htjx.1 htjx.2.1 hcx) (200 + 5 * x_o.toNat + 1) htxx.2.1.1 rfl rfl rfl (Nat.le_of_ble_eq_true rfl) ⟨rfl, rfl, ⟨(Nat.le_of_ble_eq_true rfl), (Nat.le_of_ble_eq_true rfl)⟩, ⟨(Nat.le_of_ble_eq_true rfl), (Nat.le_of_ble_eq_true rfl)⟩⟩ dX6_isSoundText_1 (kcI fun z1_o w1_o hp => ?_)
  obtain ⟨rfl, rfl⟩ := hp
  refine k_top (z' := ((m_TT g_o nr (lts x_o.toNat) 10 0 (cs x_o.toNat - 1) : Nat) : Int)) (kTr_all hTx hcx) ?_
  refine k_istore_n (lv' := [(2, .int (iI ((m_TT g_o nr (lts x_o.toNat) 10 0 (cs x_o.toNat - 1) : Nat) : Int))), (0, .ref (ad 0)), (1, .ref (ad (200 + 5 * x_o.toNat + 1)))]) h_o dX6_isSoundText_4 rfl (by decide) rfl ?_
  refine k_aload_n h_o 2 dX6_isSoundText_5 rfl rfl ?_
  refine k_get h_o (200 + 5 * x_o.toNat + 1) kf_X6_131 htxx.2.1.1 rfl dX6_isSoundText_6 ?_
  refine k_iconst h_o dX6_isSoundText_9 ?_
  refine k_icmp_gt h_o 31 (by omega) (by decide) dX6_isSoundText_10 (by decide) (fun h10_o => ?_) (fun h10_o => ?_)
  · refine k_aload_n h_o 1 dX6_isSoundText_31 rfl rfl ?_
    refine k_get h_o 0 kf_X6_25 hpo rfl dX6_isSoundText_32 ?_
    refine k_aload_n h_o 2 dX6_isSoundText_35 rfl rfl ?_
    refine k_callV (As := [.ref (ad (200 + 5 * x_o.toNat + 1))]) (rest := []) h_o mX3_copyLetters kq_1_215 (c_X3_copyLetters hl0 hs4 htxx.2.1 (by omega) (by omega)) 4 hs4.1 rfl rfl rfl (Nat.le_of_ble_eq_true rfl) ⟨rfl, rfl, ⟨(Nat.le_of_ble_eq_true rfl), (Nat.le_of_ble_eq_true rfl)⟩, ⟨(Nat.le_of_ble_eq_true rfl), (Nat.le_of_ble_eq_true rfl)⟩⟩ dX6_isSoundText_36 (kcV fun w36_o hp => ?_)
    subst hp
    refine k_aload_n h_o 1 dX6_isSoundText_39 rfl rfl ?_
    refine k_get h_o 0 kf_X6_25 ((kset_ne (by decide)).trans ((kset_ne (by decide)).trans hpo)) rfl dX6_isSoundText_40 ?_
    refine k_aload_n h_o 1 dX6_isSoundText_43 rfl rfl ?_
    refine k_get h_o 0 kf_X6_12 ((kset_ne (by decide)).trans ((kset_ne (by decide)).trans hpo)) rfl dX6_isSoundText_44 ?_
    refine k_callV (As := [.ref (ad 1)]) (rest := []) h_o mX3_findAll kq_1_227 (c_X3_findAll hl0 ⟨((kset_ne (by decide)).trans kset_eq), kset_eq, ((kset_ne (by decide)).trans ((kset_ne (by decide)).trans hs4.2.2))⟩ (kLt_cpl hs5 htjx.1) hs6 ⟨((kset_ne (by decide)).trans ((kset_ne (by decide)).trans hgr.1)), ((kset_ne (by decide)).trans ((kset_ne (by decide)).trans hgr.2.1)), fun i_o hi_o => (((kset_ne (by omega)).trans ((kset_ne (by omega)).trans rfl)).trans (hgr.2.2.1 i_o hi_o)), hnr⟩ hwf (by omega) hcx) 4 ((kset_ne (by decide)).trans kset_eq) rfl rfl rfl (Nat.le_of_ble_eq_true rfl) ⟨rfl, rfl, ⟨(Nat.le_of_ble_eq_true rfl), (Nat.le_of_ble_eq_true rfl)⟩, ⟨(Nat.le_of_ble_eq_true rfl), (Nat.le_of_ble_eq_true rfl)⟩⟩ dX6_isSoundText_47 (kcI fun z47_o w47_o hp => ?_)
    obtain ⟨rfl, N2, rfl, hN2, hT2⟩ := hp
    have hltc : kLt (m_cpl ls (lts x_o.toNat) (cs x_o.toNat)) := kLt_cpl hs5 htjx.1
    have hstS : kSu (kset (kset (kset w_o 4 (ad 4) (ob 5 [.ref (ad 5), .ref (ad 6), .int (iI (cs x_o.toNat))])) 5 (ad 5) (ai 10 (m_cpl ls (lts x_o.toNat) (cs x_o.toNat)))) 6 (ad 6) (ai 500 (fun x_o => ((N2 x_o : Nat) : Int)))) ad nr g_o T_o lts cs acs ams rel fnd Ns := ⟨hst.1.sc (w2 := (kset (kset (kset w_o 4 (ad 4) (ob 5 [.ref (ad 5), .ref (ad 6), .int (iI (cs x_o.toNat))])) 5 (ad 5) (ai 10 (m_cpl ls (lts x_o.toNat) (cs x_o.toNat)))) 6 (ad 6) (ai 500 (fun x_o => ((N2 x_o : Nat) : Int))))) ⟨((kset_ne (by decide)).trans ((kset_ne (by decide)).trans kset_eq)), ((kset_ne (by decide)).trans kset_eq), kset_eq⟩ hltc hN2 ((kEx.trans (kEx.kset (by decide)) (kEx.trans (kEx.kset (by decide)) (kEx.kset (by decide)))) : kEx w_o _ (fun x_o : Nat => 4 ≤ x_o ∧ x_o ≤ 6)), hst.2⟩
    refine k_pop h_o dX6_isSoundText_50 rfl ?_
    refine k_aload_n h_o 1 dX6_isSoundText_51 rfl rfl ?_
    refine k_get h_o 0 kf_X6_25 ((kset_ne (by decide)).trans ((kset_ne (by decide)).trans ((kset_ne (by decide)).trans hpo))) rfl dX6_isSoundText_52 ?_
    refine k_aload_n h_o 2 dX6_isSoundText_55 rfl rfl ?_
    refine k_callV (As := [.ref (ad (200 + 5 * x_o.toNat + 1))]) (rest := []) h_o mX3_hasNumbersOf kq_2_2 (c_X3_hasNumbersOf hl0 ⟨((kset_ne (by decide)).trans ((kset_ne (by decide)).trans kset_eq)), ((kset_ne (by decide)).trans kset_eq), kset_eq⟩ hltc hN2 ⟨((kset_ne (by omega)).trans ((kset_ne (by omega)).trans ((kset_ne (by omega)).trans htxx.2.1.1))), ((kset_ne (by omega)).trans ((kset_ne (by omega)).trans ((kset_ne (by omega)).trans htxx.2.1.2.1))), ((kset_ne (by omega)).trans ((kset_ne (by omega)).trans ((kset_ne (by omega)).trans htxx.2.1.2.2)))⟩ htjx.1 htjx.2.1 (by omega) (fun s_o i_o j_o q0 q1 q2 q3 => (hT2 s_o i_o j_o q0 q1 q2 q3).trans ((m_TT_row q2 (fun p_o e1 e2 => if_pos (by omega))).trans (hTx s_o i_o j_o q0 q1 q2 q3).symm))) 4 ((kset_ne (by decide)).trans ((kset_ne (by decide)).trans kset_eq)) rfl rfl rfl (Nat.le_of_ble_eq_true rfl) ⟨rfl, rfl, ⟨(Nat.le_of_ble_eq_true rfl), (Nat.le_of_ble_eq_true rfl)⟩, ⟨(Nat.le_of_ble_eq_true rfl), (Nat.le_of_ble_eq_true rfl)⟩⟩ dX6_isSoundText_56 (kcI fun z56_o w56_o hp => ?_)
    obtain ⟨rfl, rfl⟩ := hp
    refine k_ifne h_o 64 (by decide) dX6_isSoundText_59 (by decide) (fun h59_o => ?_) (fun h59_o => ?_)
    · refine k_aload_n h_o 1 dX6_isSoundText_64 rfl rfl ?_
      refine k_get h_o 0 kf_X6_32 ((kset_ne (by decide)).trans ((kset_ne (by decide)).trans ((kset_ne (by decide)).trans hpo))) rfl dX6_isSoundText_65 ?_
      refine k_aload_n h_o 1 dX6_isSoundText_68 rfl rfl ?_
      refine k_get h_o 0 kf_X6_12 ((kset_ne (by decide)).trans ((kset_ne (by decide)).trans ((kset_ne (by decide)).trans hpo))) rfl dX6_isSoundText_69 ?_
      refine k_aload_n h_o 2 dX6_isSoundText_72 rfl rfl ?_
      refine k_callV (As := [.ref (ad 1), .ref (ad (200 + 5 * x_o.toNat + 1))]) (rest := []) h_o mX1_lay kq_2_6 (c_X1_lay (al := fun k_o => ad (7 + k_o)) (O_o := O_o) (sk := sk) (t_o := 0) hl0 ⟨((kset_ne (by decide)).trans ((kset_ne (by decide)).trans ((kset_ne (by decide)).trans hly.1))), ((kset_ne (by decide)).trans ((kset_ne (by decide)).trans ((kset_ne (by decide)).trans hly.2.1))), ((kset_ne (by decide)).trans ((kset_ne (by decide)).trans ((kset_ne (by decide)).trans hly.2.2.1))), ((kset_ne (by decide)).trans ((kset_ne (by decide)).trans ((kset_ne (by decide)).trans hly.2.2.2.1))), ((kset_ne (by decide)).trans ((kset_ne (by decide)).trans ((kset_ne (by decide)).trans hly.2.2.2.2.1))), ((kset_ne (by decide)).trans ((kset_ne (by decide)).trans ((kset_ne (by decide)).trans hly.2.2.2.2.2.1))), ((kset_ne (by decide)).trans ((kset_ne (by decide)).trans ((kset_ne (by decide)).trans hly.2.2.2.2.2.2.1))), ((kset_ne (by decide)).trans ((kset_ne (by decide)).trans ((kset_ne (by decide)).trans hly.2.2.2.2.2.2.2)))⟩ ⟨((kset_ne (by omega)).trans ((kset_ne (by omega)).trans ((kset_ne (by omega)).trans htxx.2.1.1))), ((kset_ne (by omega)).trans ((kset_ne (by omega)).trans ((kset_ne (by omega)).trans htxx.2.1.2.1))), ((kset_ne (by omega)).trans ((kset_ne (by omega)).trans ((kset_ne (by omega)).trans htxx.2.1.2.2)))⟩ htjx.1 htjx.2.1 ⟨((kset_ne (by decide)).trans ((kset_ne (by decide)).trans ((kset_ne (by decide)).trans hgr.1))), ((kset_ne (by decide)).trans ((kset_ne (by decide)).trans ((kset_ne (by decide)).trans hgr.2.1))), fun i_o hi_o => (((kset_ne (by omega)).trans ((kset_ne (by omega)).trans ((kset_ne (by omega)).trans rfl))).trans (hgr.2.2.1 i_o hi_o)), hnr⟩ hwf (by omega) hTx hcx hOi) 7 ((kset_ne (by decide)).trans ((kset_ne (by decide)).trans ((kset_ne (by decide)).trans hly.1))) rfl rfl rfl (Nat.le_of_ble_eq_true rfl) ⟨rfl, rfl, ⟨(Nat.le_of_ble_eq_true rfl), (Nat.le_of_ble_eq_true rfl)⟩, ⟨(Nat.le_of_ble_eq_true rfl), (Nat.le_of_ble_eq_true rfl)⟩⟩ dX6_isSoundText_73 (kcV fun wq26 hp => ?_)
      obtain ⟨skq26, hlyq26, hexq26⟩ := hp
      have hOi2 := kOi_lay (lt := lts x_o.toNat) hwf hnr hcx hOi
      have hOc := m_lay_cnt (lt := lts x_o.toNat) (O := O_o) hwf hcx
      have hOl := m_lay_lc (lt := lts x_o.toNat) (O := O_o) hwf hcx
      refine k_iload_n h_o 0 dX6_isSoundText_76 rfl rfl ?_
      refine k_ifeq h_o 94 (m_natrg m_TT_le) dX6_isSoundText_77 (by decide) (fun h77_o => ?_) (fun h77_o => ?_)
      · refine k_iconst h_o dX6_isSoundText_94 ?_
        refine k_goto h_o 99 dX6_isSoundText_95 (by decide) ?_
        exact k_iret h_o hr rfl (⟨_, rfl, rfl, ⟨hstS.1.ly hlyq26 hOi2 hexq26, hstS.2⟩, (kEx.trans (kEx.trans kEx.rfl (kEx.trans (kEx.kset (Or.inl (by decide))) (kEx.trans (kEx.kset (Or.inl (by decide))) (kEx.kset (Or.inl (by decide)))))) (hexq26.sub kLk_Pk))⟩) (by omega) (by omega) dX6_isSoundText_99
      · refine k_aload_n h_o 1 dX6_isSoundText_80 rfl rfl ?_
        refine k_get h_o 0 kf_X6_32 ((hexq26 0 (by show ¬ (7 ≤ 0 ∧ 0 ≤ 14); omega)).trans ((kset_ne (by decide)).trans ((kset_ne (by decide)).trans ((kset_ne (by decide)).trans hpo)))) rfl dX6_isSoundText_81 ?_
        refine k_get h_o 7 kf_X6_257 hlyq26.1 rfl dX6_isSoundText_84 ?_
        refine k_aload_n h_o 2 dX6_isSoundText_87 rfl rfl ?_
        refine k_get h_o (200 + 5 * x_o.toNat + 1) kf_X6_131 ((hexq26 (200 + 5 * x_o.toNat + 1) (by show ¬ (7 ≤ (200 + 5 * x_o.toNat + 1) ∧ (200 + 5 * x_o.toNat + 1) ≤ 14); omega)).trans ((kset_ne (by omega)).trans ((kset_ne (by omega)).trans ((kset_ne (by omega)).trans htxx.2.1.1)))) rfl dX6_isSoundText_88 ?_
        refine k_icmp_ne h_o 98 (by omega) (by omega) dX6_isSoundText_91 (by decide) (fun h91_o => ?_) (fun h91_o => ?_)
        · exfalso; rw [hOc.2.2] at h91_o; split at h91_o <;> omega
        · refine k_iconst h_o dX6_isSoundText_94 ?_
          refine k_goto h_o 99 dX6_isSoundText_95 (by decide) ?_
          exact k_iret h_o hr rfl (⟨_, rfl, rfl, ⟨hstS.1.ly hlyq26 hOi2 hexq26, hstS.2⟩, (kEx.trans (kEx.trans kEx.rfl (kEx.trans (kEx.kset (Or.inl (by decide))) (kEx.trans (kEx.kset (Or.inl (by decide))) (kEx.kset (Or.inl (by decide)))))) (hexq26.sub kLk_Pk))⟩) (by omega) (by omega) dX6_isSoundText_99
    · exfalso; omega
  · refine k_aload_n h_o 1 dX6_isSoundText_13 rfl rfl ?_
    refine k_get h_o 0 kf_X6_39 hpo rfl dX6_isSoundText_14 ?_
    refine k_aload_n h_o 1 dX6_isSoundText_17 rfl rfl ?_
    refine k_get h_o 0 kf_X6_12 hpo rfl dX6_isSoundText_18 ?_
    refine k_aload_n h_o 2 dX6_isSoundText_21 rfl rfl ?_
    refine k_callV (As := [.ref (ad 1), .ref (ad (200 + 5 * x_o.toNat + 1))]) (rest := []) h_o mX5_treesOfAll kq_1_181 (c_X5_treesOfAll hl0 ⟨ht15, htxx.2.1, hgr, htjx.1, htjx.2.1, hwf, (by omega)⟩ ht16 (by omega)) 15 ht15 rfl rfl rfl (Nat.le_of_ble_eq_true rfl) ⟨rfl, rfl, ⟨(Nat.le_of_ble_eq_true rfl), (Nat.le_of_ble_eq_true rfl)⟩, ⟨(Nat.le_of_ble_eq_true rfl), (Nat.le_of_ble_eq_true rfl)⟩⟩ dX6_isSoundText_22 (kcI fun z22_o w22_o hp => ?_)
    obtain ⟨rfl, kn2, rfl⟩ := hp
    have hstT : kSu (kset w_o 16 (ad 16) (ai 500 kn2)) ad nr g_o T_o lts cs acs ams rel fnd Ns := ⟨hst.1.tr (kn := kn2) kset_eq (kEx.kset rfl), hst.2⟩
    refine k_iload_n h_o 0 dX6_isSoundText_25 rfl rfl ?_
    refine k_icmp_eq h_o 31 (m_natrg m_TT_le) (m_natrg m_TT_le) dX6_isSoundText_26 (by decide) (fun h26_o => ?_) (fun h26_o => ?_)
    · refine k_aload_n h_o 1 dX6_isSoundText_31 rfl rfl ?_
      refine k_get h_o 0 kf_X6_25 ((kset_ne (by decide)).trans hpo) rfl dX6_isSoundText_32 ?_
      refine k_aload_n h_o 2 dX6_isSoundText_35 rfl rfl ?_
      refine k_callV (As := [.ref (ad (200 + 5 * x_o.toNat + 1))]) (rest := []) h_o mX3_copyLetters kq_1_215 (c_X3_copyLetters hl0 ⟨((kset_ne (by decide)).trans hs4.1), ((kset_ne (by decide)).trans hs4.2.1), ((kset_ne (by decide)).trans hs4.2.2)⟩ ⟨((kset_ne (by omega)).trans htxx.2.1.1), ((kset_ne (by omega)).trans htxx.2.1.2.1), ((kset_ne (by omega)).trans htxx.2.1.2.2)⟩ (by omega) (by omega)) 4 ((kset_ne (by decide)).trans hs4.1) rfl rfl rfl (Nat.le_of_ble_eq_true rfl) ⟨rfl, rfl, ⟨(Nat.le_of_ble_eq_true rfl), (Nat.le_of_ble_eq_true rfl)⟩, ⟨(Nat.le_of_ble_eq_true rfl), (Nat.le_of_ble_eq_true rfl)⟩⟩ dX6_isSoundText_36 (kcV fun w36_o hp => ?_)
      subst hp
      refine k_aload_n h_o 1 dX6_isSoundText_39 rfl rfl ?_
      refine k_get h_o 0 kf_X6_25 ((kset_ne (by decide)).trans ((kset_ne (by decide)).trans ((kset_ne (by decide)).trans hpo))) rfl dX6_isSoundText_40 ?_
      refine k_aload_n h_o 1 dX6_isSoundText_43 rfl rfl ?_
      refine k_get h_o 0 kf_X6_12 ((kset_ne (by decide)).trans ((kset_ne (by decide)).trans ((kset_ne (by decide)).trans hpo))) rfl dX6_isSoundText_44 ?_
      refine k_callV (As := [.ref (ad 1)]) (rest := []) h_o mX3_findAll kq_1_227 (c_X3_findAll hl0 ⟨((kset_ne (by decide)).trans kset_eq), kset_eq, ((kset_ne (by decide)).trans ((kset_ne (by decide)).trans ((kset_ne (by decide)).trans hs4.2.2)))⟩ (kLt_cpl hs5 htjx.1) hs6 ⟨((kset_ne (by decide)).trans ((kset_ne (by decide)).trans ((kset_ne (by decide)).trans hgr.1))), ((kset_ne (by decide)).trans ((kset_ne (by decide)).trans ((kset_ne (by decide)).trans hgr.2.1))), fun i_o hi_o => (((kset_ne (by omega)).trans ((kset_ne (by omega)).trans ((kset_ne (by omega)).trans rfl))).trans (hgr.2.2.1 i_o hi_o)), hnr⟩ hwf (by omega) hcx) 4 ((kset_ne (by decide)).trans kset_eq) rfl rfl rfl (Nat.le_of_ble_eq_true rfl) ⟨rfl, rfl, ⟨(Nat.le_of_ble_eq_true rfl), (Nat.le_of_ble_eq_true rfl)⟩, ⟨(Nat.le_of_ble_eq_true rfl), (Nat.le_of_ble_eq_true rfl)⟩⟩ dX6_isSoundText_47 (kcI fun z47_o w47_o hp => ?_)
      obtain ⟨rfl, N2, rfl, hN2, hT2⟩ := hp
      have hltc : kLt (m_cpl ls (lts x_o.toNat) (cs x_o.toNat)) := kLt_cpl hs5 htjx.1
      have hstS : kSu (kset (kset (kset (kset w_o 16 (ad 16) (ai 500 kn2)) 4 (ad 4) (ob 5 [.ref (ad 5), .ref (ad 6), .int (iI (cs x_o.toNat))])) 5 (ad 5) (ai 10 (m_cpl ls (lts x_o.toNat) (cs x_o.toNat)))) 6 (ad 6) (ai 500 (fun x_o => ((N2 x_o : Nat) : Int)))) ad nr g_o T_o lts cs acs ams rel fnd Ns := ⟨hstT.1.sc (w2 := (kset (kset (kset (kset w_o 16 (ad 16) (ai 500 kn2)) 4 (ad 4) (ob 5 [.ref (ad 5), .ref (ad 6), .int (iI (cs x_o.toNat))])) 5 (ad 5) (ai 10 (m_cpl ls (lts x_o.toNat) (cs x_o.toNat)))) 6 (ad 6) (ai 500 (fun x_o => ((N2 x_o : Nat) : Int))))) ⟨((kset_ne (by decide)).trans ((kset_ne (by decide)).trans kset_eq)), ((kset_ne (by decide)).trans kset_eq), kset_eq⟩ hltc hN2 ((kEx.trans (kEx.kset (by decide)) (kEx.trans (kEx.kset (by decide)) (kEx.kset (by decide)))) : kEx (kset w_o 16 (ad 16) (ai 500 kn2)) _ (fun x_o : Nat => 4 ≤ x_o ∧ x_o ≤ 6)), hstT.2⟩
      refine k_pop h_o dX6_isSoundText_50 rfl ?_
      refine k_aload_n h_o 1 dX6_isSoundText_51 rfl rfl ?_
      refine k_get h_o 0 kf_X6_25 ((kset_ne (by decide)).trans ((kset_ne (by decide)).trans ((kset_ne (by decide)).trans ((kset_ne (by decide)).trans hpo)))) rfl dX6_isSoundText_52 ?_
      refine k_aload_n h_o 2 dX6_isSoundText_55 rfl rfl ?_
      refine k_callV (As := [.ref (ad (200 + 5 * x_o.toNat + 1))]) (rest := []) h_o mX3_hasNumbersOf kq_2_2 (c_X3_hasNumbersOf hl0 ⟨((kset_ne (by decide)).trans ((kset_ne (by decide)).trans kset_eq)), ((kset_ne (by decide)).trans kset_eq), kset_eq⟩ hltc hN2 ⟨((kset_ne (by omega)).trans ((kset_ne (by omega)).trans ((kset_ne (by omega)).trans ((kset_ne (by omega)).trans htxx.2.1.1)))), ((kset_ne (by omega)).trans ((kset_ne (by omega)).trans ((kset_ne (by omega)).trans ((kset_ne (by omega)).trans htxx.2.1.2.1)))), ((kset_ne (by omega)).trans ((kset_ne (by omega)).trans ((kset_ne (by omega)).trans ((kset_ne (by omega)).trans htxx.2.1.2.2))))⟩ htjx.1 htjx.2.1 (by omega) (fun s_o i_o j_o q0 q1 q2 q3 => (hT2 s_o i_o j_o q0 q1 q2 q3).trans ((m_TT_row q2 (fun p_o e1 e2 => if_pos (by omega))).trans (hTx s_o i_o j_o q0 q1 q2 q3).symm))) 4 ((kset_ne (by decide)).trans ((kset_ne (by decide)).trans kset_eq)) rfl rfl rfl (Nat.le_of_ble_eq_true rfl) ⟨rfl, rfl, ⟨(Nat.le_of_ble_eq_true rfl), (Nat.le_of_ble_eq_true rfl)⟩, ⟨(Nat.le_of_ble_eq_true rfl), (Nat.le_of_ble_eq_true rfl)⟩⟩ dX6_isSoundText_56 (kcI fun z56_o w56_o hp => ?_)
      obtain ⟨rfl, rfl⟩ := hp
      refine k_ifne h_o 64 (by decide) dX6_isSoundText_59 (by decide) (fun h59_o => ?_) (fun h59_o => ?_)
      · refine k_aload_n h_o 1 dX6_isSoundText_64 rfl rfl ?_
        refine k_get h_o 0 kf_X6_32 ((kset_ne (by decide)).trans ((kset_ne (by decide)).trans ((kset_ne (by decide)).trans ((kset_ne (by decide)).trans hpo)))) rfl dX6_isSoundText_65 ?_
        refine k_aload_n h_o 1 dX6_isSoundText_68 rfl rfl ?_
        refine k_get h_o 0 kf_X6_12 ((kset_ne (by decide)).trans ((kset_ne (by decide)).trans ((kset_ne (by decide)).trans ((kset_ne (by decide)).trans hpo)))) rfl dX6_isSoundText_69 ?_
        refine k_aload_n h_o 2 dX6_isSoundText_72 rfl rfl ?_
        refine k_callV (As := [.ref (ad 1), .ref (ad (200 + 5 * x_o.toNat + 1))]) (rest := []) h_o mX1_lay kq_2_6 (c_X1_lay (al := fun k_o => ad (7 + k_o)) (O_o := O_o) (sk := sk) (t_o := 0) hl0 ⟨((kset_ne (by decide)).trans ((kset_ne (by decide)).trans ((kset_ne (by decide)).trans ((kset_ne (by decide)).trans hly.1)))), ((kset_ne (by decide)).trans ((kset_ne (by decide)).trans ((kset_ne (by decide)).trans ((kset_ne (by decide)).trans hly.2.1)))), ((kset_ne (by decide)).trans ((kset_ne (by decide)).trans ((kset_ne (by decide)).trans ((kset_ne (by decide)).trans hly.2.2.1)))), ((kset_ne (by decide)).trans ((kset_ne (by decide)).trans ((kset_ne (by decide)).trans ((kset_ne (by decide)).trans hly.2.2.2.1)))), ((kset_ne (by decide)).trans ((kset_ne (by decide)).trans ((kset_ne (by decide)).trans ((kset_ne (by decide)).trans hly.2.2.2.2.1)))), ((kset_ne (by decide)).trans ((kset_ne (by decide)).trans ((kset_ne (by decide)).trans ((kset_ne (by decide)).trans hly.2.2.2.2.2.1)))), ((kset_ne (by decide)).trans ((kset_ne (by decide)).trans ((kset_ne (by decide)).trans ((kset_ne (by decide)).trans hly.2.2.2.2.2.2.1)))), ((kset_ne (by decide)).trans ((kset_ne (by decide)).trans ((kset_ne (by decide)).trans ((kset_ne (by decide)).trans hly.2.2.2.2.2.2.2))))⟩ ⟨((kset_ne (by omega)).trans ((kset_ne (by omega)).trans ((kset_ne (by omega)).trans ((kset_ne (by omega)).trans htxx.2.1.1)))), ((kset_ne (by omega)).trans ((kset_ne (by omega)).trans ((kset_ne (by omega)).trans ((kset_ne (by omega)).trans htxx.2.1.2.1)))), ((kset_ne (by omega)).trans ((kset_ne (by omega)).trans ((kset_ne (by omega)).trans ((kset_ne (by omega)).trans htxx.2.1.2.2))))⟩ htjx.1 htjx.2.1 ⟨((kset_ne (by decide)).trans ((kset_ne (by decide)).trans ((kset_ne (by decide)).trans ((kset_ne (by decide)).trans hgr.1)))), ((kset_ne (by decide)).trans ((kset_ne (by decide)).trans ((kset_ne (by decide)).trans ((kset_ne (by decide)).trans hgr.2.1)))), fun i_o hi_o => (((kset_ne (by omega)).trans ((kset_ne (by omega)).trans ((kset_ne (by omega)).trans ((kset_ne (by omega)).trans rfl)))).trans (hgr.2.2.1 i_o hi_o)), hnr⟩ hwf (by omega) hTx hcx hOi) 7 ((kset_ne (by decide)).trans ((kset_ne (by decide)).trans ((kset_ne (by decide)).trans ((kset_ne (by decide)).trans hly.1)))) rfl rfl rfl (Nat.le_of_ble_eq_true rfl) ⟨rfl, rfl, ⟨(Nat.le_of_ble_eq_true rfl), (Nat.le_of_ble_eq_true rfl)⟩, ⟨(Nat.le_of_ble_eq_true rfl), (Nat.le_of_ble_eq_true rfl)⟩⟩ dX6_isSoundText_73 (kcV fun wq27 hp => ?_)
        obtain ⟨skq27, hlyq27, hexq27⟩ := hp
        have hOi2 := kOi_lay (lt := lts x_o.toNat) hwf hnr hcx hOi
        have hOc := m_lay_cnt (lt := lts x_o.toNat) (O := O_o) hwf hcx
        have hOl := m_lay_lc (lt := lts x_o.toNat) (O := O_o) hwf hcx
        refine k_iload_n h_o 0 dX6_isSoundText_76 rfl rfl ?_
        refine k_ifeq h_o 94 (m_natrg m_TT_le) dX6_isSoundText_77 (by decide) (fun h77_o => ?_) (fun h77_o => ?_)
        · refine k_iconst h_o dX6_isSoundText_94 ?_
          refine k_goto h_o 99 dX6_isSoundText_95 (by decide) ?_
          exact k_iret h_o hr rfl (⟨_, rfl, rfl, ⟨hstS.1.ly hlyq27 hOi2 hexq27, hstS.2⟩, (kEx.trans (kEx.trans (kEx.trans kEx.rfl (kEx.kset (Or.inl (by decide)))) (kEx.trans (kEx.kset (Or.inl (by decide))) (kEx.trans (kEx.kset (Or.inl (by decide))) (kEx.kset (Or.inl (by decide)))))) (hexq27.sub kLk_Pk))⟩) (by omega) (by omega) dX6_isSoundText_99
        · refine k_aload_n h_o 1 dX6_isSoundText_80 rfl rfl ?_
          refine k_get h_o 0 kf_X6_32 ((hexq27 0 (by show ¬ (7 ≤ 0 ∧ 0 ≤ 14); omega)).trans ((kset_ne (by decide)).trans ((kset_ne (by decide)).trans ((kset_ne (by decide)).trans ((kset_ne (by decide)).trans hpo))))) rfl dX6_isSoundText_81 ?_
          refine k_get h_o 7 kf_X6_257 hlyq27.1 rfl dX6_isSoundText_84 ?_
          refine k_aload_n h_o 2 dX6_isSoundText_87 rfl rfl ?_
          refine k_get h_o (200 + 5 * x_o.toNat + 1) kf_X6_131 ((hexq27 (200 + 5 * x_o.toNat + 1) (by show ¬ (7 ≤ (200 + 5 * x_o.toNat + 1) ∧ (200 + 5 * x_o.toNat + 1) ≤ 14); omega)).trans ((kset_ne (by omega)).trans ((kset_ne (by omega)).trans ((kset_ne (by omega)).trans ((kset_ne (by omega)).trans htxx.2.1.1))))) rfl dX6_isSoundText_88 ?_
          refine k_icmp_ne h_o 98 (by omega) (by omega) dX6_isSoundText_91 (by decide) (fun h91_o => ?_) (fun h91_o => ?_)
          · exfalso; rw [hOc.2.2] at h91_o; split at h91_o <;> omega
          · refine k_iconst h_o dX6_isSoundText_94 ?_
            refine k_goto h_o 99 dX6_isSoundText_95 (by decide) ?_
            exact k_iret h_o hr rfl (⟨_, rfl, rfl, ⟨hstS.1.ly hlyq27 hOi2 hexq27, hstS.2⟩, (kEx.trans (kEx.trans (kEx.trans kEx.rfl (kEx.kset (Or.inl (by decide)))) (kEx.trans (kEx.kset (Or.inl (by decide))) (kEx.trans (kEx.kset (Or.inl (by decide))) (kEx.kset (Or.inl (by decide)))))) (hexq27.sub kLk_Pk))⟩) (by omega) (by omega) dX6_isSoundText_99
      · exfalso; omega
    · exfalso; omega

set_option maxHeartbeats 400000 in
set_option maxRecDepth 100000 in
theorem c_X6_isSound {E_o : kE} {l_o : Launch} (hl0 : l_o.stackTraces = false) {w_o : kW} {ad : Nat → Nat} {nr : Nat} {g_o : Nat → Nat → Int} {T_o : Nat} {lts : Nat → Nat → Int} {cs : Nat → Int} {acs : Nat → Nat → Int} {ams : Nat → Int} {rel fnd : Int} {Ns : Nat → Nat → Nat}  (hst : kSu w_o ad nr g_o T_o lts cs acs ams rel fnd Ns)  : kM E_o l_o yX6_isSound (.code yX6_isSound cX6_isSound 5 (some .boolean) :: kAL) { frames := 105, cells := 0, slots := 0, locals := 2984 } 0 0 [.ref (ad 0)] w_o (pI (fun z_o w2_o => 1 = z_o ∧ kSv w_o w2_o ad nr g_o T_o lts cs acs ams rel fnd Ns)) := by
  refine kM_of hl0 (by decide +kernel) (Nat.le_of_ble_eq_true rfl) ?_
  intro X_o hXl h_o hr hin
  subst hXl
  obtain ⟨⟨hpo, hgr, hwf, hts, hsc, hlo, hto, htx, htj⟩, hT⟩ := id hst
  obtain ⟨ls, Nz, cz, hs4, hs5, hs6⟩ := hsc
  obtain ⟨O_o, sk, hly, hOi⟩ := hlo
  obtain ⟨ht15, kn, ht16⟩ := hto
  have hnr := hgr.2.2.2
  have hT6 := hts.2
  show kG E_o X_o 5 0 0 w_o 0 [(0, .ref (ad 0))] []
  refine k_aload_n h_o 0 dX6_isSound_0 rfl rfl ?_
  refine k_get h_o 0 kf_X6_18 hpo rfl dX6_isSound_1 ?_
  refine k_astore_n (lv' := [(1, .ref (ad 3)), (0, .ref (ad 0))]) h_o dX6_isSound_4 rfl (by decide) rfl ?_
  refine k_aload_n h_o 0 dX6_isSound_5 rfl rfl ?_
  refine k_alen h_o 3 hts.1 rfl dX6_isSound_6 ?_
  show kG E_o X_o 5 _ _ _ _ _ (.int (iI 6) :: _)
  refine k_istore_n (lv' := [(2, .int (iI 6)), (1, .ref (ad 3)), (0, .ref (ad 0))]) h_o dX6_isSound_7 rfl (by decide) rfl ?_
  refine k_iconst h_o dX6_isSound_8 ?_
  refine k_istore_n (lv' := [(3, .int (iI 0)), (2, .int (iI 6)), (1, .ref (ad 3)), (0, .ref (ad 0))]) h_o dX6_isSound_9 rfl (by decide) rfl ?_
  have L10 : ∀ (mm : Nat) (y_o : Int) (w8_o : kW), (0 ≤ y_o ∧ y_o ≤ 6) → (kSu w8_o ad nr g_o T_o lts cs acs ams rel fnd Ns) → (kEx w_o w8_o kPk) → (6 - y_o < (mm : Int)) → kG E_o X_o 5 0 0 w8_o 10 [(0, .ref (ad 0)), (1, .ref (ad 3)), (2, .int (iI 6)), (3, .int (iI y_o))] [] := by
    intro mm
    induction mm with
    | zero =>
      intro y_o w8_o hy hs8 hx8 hm_o
      exfalso; omega
    | succ mm ih10 =>
      intro y_o w8_o hy hs8 hx8 hm_o
      refine k_iload_n h_o 3 dX6_isSound_10 rfl rfl ?_
      refine k_iload_n h_o 2 dX6_isSound_11 rfl rfl ?_
      refine k_icmp_ge h_o 45 (by omega) (by decide) dX6_isSound_12 (by decide) (fun h12_o => ?_) (fun h12_o => ?_)
      · refine k_iconst h_o dX6_isSound_45 ?_
        exact k_iret h_o hr rfl (⟨_, rfl, rfl, hs8, hx8⟩) (by omega) (by omega) dX6_isSound_46
      · refine k_aload_n h_o 1 dX6_isSound_15 rfl rfl ?_
        refine k_iload_n h_o 3 dX6_isSound_16 rfl rfl ?_
        refine k_aald h_o 3 hs8.1.2.2.2.1.1 rfl (by omega) (by decide) dX6_isSound_17 ?_
        by_cases hxn : y_o < (T_o : Int)
        · refine k_topQ (a := ad (200 + 5 * y_o.toNat)) (if_pos (by omega)) ?_
          have hyT : y_o.toNat < T_o := by omega
          refine k_astore (lv' := [(4, .ref (ad (200 + 5 * y_o.toNat))), (0, .ref (ad 0)), (1, .ref (ad 3)), (2, .int (iI 6)), (3, .int (iI y_o))]) h_o dX6_isSound_18 (by decide) rfl ?_
          refine k_aload h_o 0 dX6_isSound_20 rfl ?_
          refine k_ifnull h_o dX6_isSound_22 ?_
          refine k_aload_n h_o 1 dX6_isSound_25 rfl rfl ?_
          refine k_aload h_o 0 dX6_isSound_26 rfl ?_
          refine k_get h_o (200 + 5 * y_o.toNat) kf_X6_117 (hs8.1.2.2.2.2.2.2.2.1 y_o.toNat hyT).1 rfl dX6_isSound_28 ?_
          refine k_callV (As := [.ref (ad (200 + 5 * y_o.toNat + 1))]) (rest := []) h_o mX6_isSoundText kq_1_169 (c_X6_isSoundText hl0 hs8 (x_o := y_o) ⟨hy.1, hxn⟩) 0 hs8.1.1 rfl rfl rfl (Nat.le_of_ble_eq_true rfl) ⟨rfl, rfl, ⟨(Nat.le_of_ble_eq_true rfl), (Nat.le_of_ble_eq_true rfl)⟩, ⟨(Nat.le_of_ble_eq_true rfl), (Nat.le_of_ble_eq_true rfl)⟩⟩ dX6_isSound_31 (kcI fun z31_o wF hp => ?_)
          obtain ⟨rfl, hstF, hexF⟩ := hp
          refine k_ifne h_o 39 (by decide) dX6_isSound_34 (by decide) (fun h34_o => ?_) (fun h34_o => ?_)
          · refine k_iinc (lv' := [(3, .int (iI (y_o + 1))), (4, .ref (ad (200 + 5 * y_o.toNat))), (0, .ref (ad 0)), (1, .ref (ad 3)), (2, .int (iI 6))]) h_o 4 dX6_isSound_39 rfl (by decide) rfl ?_
            refine k_goto h_o 10 dX6_isSound_42 (by decide) ?_
            refine k_sub (lv' := [(0, .ref (ad 0)), (1, .ref (ad 3)), (2, .int (iI 6)), (3, .int (iI (y_o + 1)))]) [2, 3, 4, 0] rfl ?_
            exact ih10 (y_o + 1) wF (by omega) hstF (kEx.trans hx8 hexF) (by omega)
          · exfalso; omega
        · refine k_topN (if_neg (by omega)) ?_
          refine k_astoreN (lv' := [(4, .null), (0, .ref (ad 0)), (1, .ref (ad 3)), (2, .int (iI 6)), (3, .int (iI y_o))]) h_o dX6_isSound_18 (by decide) rfl ?_
          refine k_aloadN h_o 0 dX6_isSound_20 rfl ?_
          refine k_ifnullN h_o 39 dX6_isSound_22 (by decide) ?_
          refine k_iinc (lv' := [(3, .int (iI (y_o + 1))), (4, .null), (0, .ref (ad 0)), (1, .ref (ad 3)), (2, .int (iI 6))]) h_o 4 dX6_isSound_39 rfl (by decide) rfl ?_
          refine k_goto h_o 10 dX6_isSound_42 (by decide) ?_
          refine k_sub (lv' := [(0, .ref (ad 0)), (1, .ref (ad 3)), (2, .int (iI 6)), (3, .int (iI (y_o + 1)))]) [2, 3, 4, 0] rfl ?_
          exact ih10 (y_o + 1) w8_o (by omega) hs8 hx8 (by omega)
  refine k_sub (lv' := [(0, .ref (ad 0)), (1, .ref (ad 3)), (2, .int (iI 6)), (3, .int (iI 0))]) [3, 2, 1, 0] rfl ?_
  exact L10 ((6 - 0 : Int).toNat + 1) 0 w_o (by omega) hst kEx.rfl (by omega)
