set_option maxHeartbeats 400000 in
set_option maxRecDepth 100000 in
theorem c_X6_dropRule {E_o : kE} {l_o : Launch} (hl0 : l_o.stackTraces = false) {w_o : kW} {ad : Nat → Nat} {nr : Nat} {g_o : Nat → Nat → Int} {T_o : Nat} {lts : Nat → Nat → Int} {cs : Nat → Int} {acs : Nat → Nat → Int} {ams : Nat → Int} {rel fnd : Int} {Ns : Nat → Nat → Nat} {x_o : Int} (hst : kSu w_o ad nr g_o T_o lts cs acs ams rel fnd Ns) (hx : -2147483648 ≤ x_o ∧ x_o < 2147483648) : kMX E_o l_o yX6_dropRule (.code yX6_dropRule cX6_dropRule 3 (some .int) :: kAL) { frames := 7, cells := 1, slots := 6, locals := 128 } 1 6 [.ref (ad 0), .int (iI x_o)] w_o (pI (fun z_o w2_o => m_tc (fun t_o => t_o < T_o ∧ m_has (lts t_o) (cs t_o) (m_up g_o 8 x_o.toNat 1) x_o.toNat) 6 = z_o ∧ m_live g_o nr x_o ∧ ∃ Ns2 : Nat → Nat → Nat, kSv w_o w2_o ad nr (m_up g_o 8 x_o.toNat 1) T_o lts cs acs ams rel (fnd + m_tf (fun t_o => t_o < T_o ∧ m_has (lts t_o) (cs t_o) (m_up g_o 8 x_o.toNat 1) x_o.toNat) (fun t_o => cs t_o * (cs t_o + 1) / 2) 6) Ns2)) (fun Ex w2_o => (Ex = "java/util/NoSuchElementException" ∧ ¬ m_live g_o nr x_o) ∧ kSv w_o w2_o ad nr g_o T_o lts cs acs ams rel fnd Ns) := by
  refine kMX_of hl0 (by decide +kernel) (Nat.le_of_ble_eq_true rfl) ?_
  intro X_o hXl h_o hr
  subst hXl
  obtain ⟨⟨hpo, hgr, hwf, hts, hsc, hlo, hto, htx, htj⟩, hT⟩ := id hst
  obtain ⟨ls, Nz, cz, hs4, hs5, hs6⟩ := hsc
  obtain ⟨O_o, sk, hly, hOi⟩ := hlo
  obtain ⟨ht15, kn, ht16⟩ := hto
  have hnr := hgr.2.2.2
  have hT6 := hts.2
  show kG E_o X_o 3 0 0 w_o 0 [(0, .ref (ad 0)), (1, .int (iI x_o))] []
  refine k_aload_n h_o 0 dX6_dropRule_0 rfl rfl ?_
  refine k_iload_n h_o 1 dX6_dropRule_1 rfl rfl ?_
  refine k_callVX (As := [.int (iI x_o)]) (rest := []) h_o mX6_existingRule kq_2_232 (c_X6_existingRule hl0 hpo hgr hwf (by omega)) 0 hpo rfl rfl rfl (Nat.le_of_ble_eq_true rfl) ⟨rfl, rfl, ⟨(Nat.le_of_ble_eq_true rfl), (Nat.le_of_ble_eq_true rfl)⟩, ⟨(Nat.le_of_ble_eq_true rfl), (Nat.le_of_ble_eq_true rfl)⟩⟩ dX6_dropRule_2 (fun Ex wx hx => k_out h_o hr (by obtain ⟨e1, e2, e3⟩ := hx; subst e3; exact ⟨⟨e1, e2⟩, hst, kEx.rfl⟩) (by decide) (by decide)) (kcR fun z2_o w2_o hp => ?_)
  obtain ⟨rfl, hlv, rfl⟩ := hp
  have hrx : x_o.toNat < nr := by have := hlv.1; have := hlv.2.1; omega
  have hwx := hwf x_o.toNat hrx
  refine k_astore_n (lv' := [(2, .ref (ad (100 + x_o.toNat))), (0, .ref (ad 0)), (1, .int (iI x_o))]) h_o dX6_dropRule_5 rfl (by decide) rfl ?_
  refine k_aload_n h_o 0 dX6_dropRule_6 rfl rfl ?_
  refine k_iconst h_o dX6_dropRule_7 ?_
  refine k_put (fs' := [.int (iI ((x_o.toNat : Nat) : Int)), .int (iI (g_o 1 x_o.toNat)), .int (iI (g_o 2 x_o.toNat)), .int (iI (g_o 3 x_o.toNat)), .int (iI (g_o 4 x_o.toNat)), .int (iI (g_o 5 x_o.toNat)), .int (iI (g_o 6 x_o.toNat)), .int (iI (g_o 7 x_o.toNat)), .int (iI 1)]) h_o (100 + x_o.toNat) kf_X6_91 kt_X2_8 (hgr.2.2.1 x_o.toNat hrx) (by decide) rfl (Nat.le_of_ble_eq_true rfl) rfl dX6_dropRule_8 ?_
  refine k_aload_n h_o 1 dX6_dropRule_11 rfl rfl ?_
  refine k_aload_n h_o 0 dX6_dropRule_12 rfl rfl ?_
  refine k_callV (As := [.ref (ad (100 + x_o.toNat))]) (rest := []) h_o mX6_findTouchedBy kq_2_211 (c_X6_findTouchedBy hl0 (hst.1.rl hrx kRl_8 (Or.inr (Or.inr (Or.inr ⟨rfl, by decide, by decide⟩)))) hrx (fun t_o ht hn => (hT t_o ht).drop hwx.1 (by rw [m_has_up] at hn; exact hn))) 0 ((kset_ne (by omega)).trans hpo) rfl rfl rfl (Nat.le_of_ble_eq_true rfl) ⟨rfl, rfl, ⟨(Nat.le_of_ble_eq_true rfl), (Nat.le_of_ble_eq_true rfl)⟩, ⟨(Nat.le_of_ble_eq_true rfl), (Nat.le_of_ble_eq_true rfl)⟩⟩ dX6_dropRule_13 (kcI fun z13_o w13_o hp => ?_)
  obtain ⟨rfl, Ns2, hsu2, hex2⟩ := hp
  exact k_iret h_o hr.ret rfl (⟨_, rfl, rfl, hlv, Ns2, hsu2, (kEx.trans (kEx.kset (Or.inr (by omega))) hex2)⟩) (by omega) (by omega) dX6_dropRule_16

set_option maxHeartbeats 400000 in
set_option maxRecDepth 100000 in
theorem c_X6_addRule {E_o : kE} {l_o : Launch} (hl0 : l_o.stackTraces = false) {w_o : kW} {ad : Nat → Nat} {nr : Nat} {g_o : Nat → Nat → Int} {T_o : Nat} {lts : Nat → Nat → Int} {cs : Nat → Int} {acs : Nat → Nat → Int} {ams : Nat → Int} {rel fnd : Int} {Ns : Nat → Nat → Nat} {x_o y_o u_o v_o : Int} (hst : kSu w_o ad nr g_o T_o lts cs acs ams rel fnd Ns) (hx : -2147483648 ≤ x_o ∧ x_o < 2147483648) (hy : -2147483648 ≤ y_o ∧ y_o < 2147483648) (hu : -2147483648 ≤ u_o ∧ u_o < 2147483648) (hv : -2147483648 ≤ v_o ∧ v_o < 2147483648) : kMX E_o l_o yX6_addRule (.code yX6_addRule cX6_addRule 6 (some .int) :: kAL) { frames := 6, cells := 2, slots := 15, locals := 128 } 2 15 [.ref (ad 0), .int (iI x_o), .int (iI y_o), .int (iI u_o), .int (iI v_o)] w_o (pI (fun z_o w2_o => (nr : Int) = z_o ∧ m_rf x_o y_o u_o v_o ∧ nr < 12 ∧ ∃ (ad2 : Nat → Nat) (Ns2 : Nat → Nat → Nat), ad2 0 = ad 0 ∧ kSv w_o w2_o ad2 (nr + 1) (m_ad g_o nr x_o y_o u_o v_o) T_o lts cs acs ams rel (fnd + m_tf (fun t_o => t_o < T_o ∧ m_has (lts t_o) (cs t_o) (m_ad g_o nr x_o y_o u_o v_o) nr) (fun t_o => cs t_o * (cs t_o + 1) / 2) 6) Ns2)) (fun Ex w2_o => ((Ex = "java/lang/IllegalArgumentException" ∧ ¬ m_rf x_o y_o u_o v_o) ∨ (Ex = "java/lang/IllegalStateException" ∧ m_rf x_o y_o u_o v_o ∧ nr = 12)) ∧ kSv w_o w2_o ad nr g_o T_o lts cs acs ams rel fnd Ns) := by
  refine kMX_of hl0 (by decide +kernel) (Nat.le_of_ble_eq_true rfl) ?_
  intro X_o hXl h_o hr
  subst hXl
  obtain ⟨⟨hpo, hgr, hwf, hts, hsc, hlo, hto, htx, htj⟩, hT⟩ := id hst
  obtain ⟨ls, Nz, cz, hs4, hs5, hs6⟩ := hsc
  obtain ⟨O_o, sk, hly, hOi⟩ := hlo
  obtain ⟨ht15, kn, ht16⟩ := hto
  have hnr := hgr.2.2.2
  have hT6 := hts.2
  show kG E_o X_o 6 0 0 w_o 0 [(0, .ref (ad 0)), (1, .int (iI x_o)), (2, .int (iI y_o)), (3, .int (iI u_o)), (4, .int (iI v_o))] []
  refine k_iload_n h_o 1 dX6_addRule_0 rfl rfl ?_
  refine k_iload_n h_o 2 dX6_addRule_1 rfl rfl ?_
  refine k_iload_n h_o 3 dX6_addRule_2 rfl rfl ?_
  refine k_iload h_o 4 dX6_addRule_3 rfl ?_
  refine k_callS (As := [.int (iI x_o), .int (iI y_o), .int (iI u_o), .int (iI v_o)]) (rest := []) h_o mX6_isRuleForm kq_2_54 (c_X6_isRuleForm hl0 (by omega) (by omega) (by omega) (by omega)) rfl rfl (Nat.le_of_ble_eq_true rfl) ⟨rfl, rfl, ⟨(Nat.le_of_ble_eq_true rfl), (Nat.le_of_ble_eq_true rfl)⟩, ⟨(Nat.le_of_ble_eq_true rfl), (Nat.le_of_ble_eq_true rfl)⟩⟩ dX6_addRule_5 (kcI fun z5_o w5_o hp => ?_)
  obtain ⟨rfl, rfl⟩ := hp
  refine k_ifBne h_o 19 dX6_addRule_8 (by decide) (fun h8_o => ?_) (fun h8_o => ?_)
  · refine k_aload_n h_o 0 dX6_addRule_19 rfl rfl ?_
    refine k_get h_o 0 kf_X6_12 hpo rfl dX6_addRule_20 ?_
    refine k_callV (As := []) (rest := []) h_o mX0_hasRoom kq_2_132 (c_X0_hasRoom hl0 hgr) 1 hgr.1 rfl rfl rfl (Nat.le_of_ble_eq_true rfl) ⟨rfl, rfl, ⟨(Nat.le_of_ble_eq_true rfl), (Nat.le_of_ble_eq_true rfl)⟩, ⟨(Nat.le_of_ble_eq_true rfl), (Nat.le_of_ble_eq_true rfl)⟩⟩ dX6_addRule_23 (kcI fun z23_o w23_o hp => ?_)
    obtain ⟨rfl, rfl⟩ := hp
    refine k_ifBne h_o 37 dX6_addRule_26 (by decide) (fun h26_o => ?_) (fun h26_o => ?_)
    · refine k_new (ci := 4) (fs := [.int (iI 0), .int (iI 0), .int (iI 0), .int (iI 0), .int (iI 0), .int (iI 0), .int (iI 0), .int (iI 0), .int (iI 0)]) h_o (100 + nr) rfl kwl_X2 tyX2_ok kq_2_151 kq_2_152 kq_1_12 (fun j_o hj => by rcases j_o with _ | _ | _ | _ | _ | _ | _ | _ | _ | _ | _ | _ | _ | _ | _ | _ | _ | _ | _ | _ | _ | _ | _ | _ | _ | j_o <;> first | rfl | omega) ⟨(Nat.le_of_ble_eq_true rfl), (Nat.le_of_ble_eq_true rfl)⟩ dX6_addRule_37 (fun b_o => ?_)
      refine k_dup h_o dX6_addRule_40 rfl ?_
      refine k_aload_n h_o 0 dX6_addRule_41 rfl rfl ?_
      refine k_get h_o 0 kf_X6_12 ((kset_ne (by omega)).trans hpo) rfl dX6_addRule_42 ?_
      refine k_get h_o 1 kf_X6_70 ((kset_ne (by omega)).trans hgr.1) rfl dX6_addRule_45 ?_
      refine k_iload_n h_o 1 dX6_addRule_48 rfl rfl ?_
      refine k_iload_n h_o 2 dX6_addRule_49 rfl rfl ?_
      refine k_iload_n h_o 3 dX6_addRule_50 rfl rfl ?_
      refine k_iload h_o 4 dX6_addRule_51 rfl ?_
      refine k_callI (As := [.int (iI (nr : Int)), .int (iI x_o), .int (iI y_o), .int (iI u_o), .int (iI v_o)]) (rest := [.ref b_o]) h_o mX2_init kq_2_153 (c_X2_init hl0 kset_eq) rfl rfl (Nat.le_of_ble_eq_true rfl) ⟨rfl, rfl, ⟨(Nat.le_of_ble_eq_true rfl), (Nat.le_of_ble_eq_true rfl)⟩, ⟨(Nat.le_of_ble_eq_true rfl), (Nat.le_of_ble_eq_true rfl)⟩⟩ dX6_addRule_53 (kcV fun wq22 hp => ?_)
      obtain ⟨hrc22, hexq22⟩ := hp
      refine k_astore (lv' := [(5, .ref b_o), (0, .ref (ad 0)), (1, .int (iI x_o)), (2, .int (iI y_o)), (3, .int (iI u_o)), (4, .int (iI v_o))]) h_o dX6_addRule_56 (by decide) rfl ?_
      refine k_aload_n h_o 1 dX6_addRule_58 rfl rfl ?_
      refine k_get h_o 0 kf_X6_12 ((hexq22 0 (by omega)).trans ((kset_ne (by omega)).trans hpo)) rfl dX6_addRule_59 ?_
      refine k_aload h_o 0 dX6_addRule_62 rfl ?_
      refine k_callV (As := [.ref b_o]) (rest := []) h_o mX0_put kq_2_207 (c_X0_put hl0 (fs := [.int (iI (nr : Int)), .int (iI x_o), .int (iI y_o), .int (iI u_o), .int (iI v_o), .int (iI 0), .int (iI 0), .int (iI 0), .int (iI 0)]) ⟨((hexq22 1 (by omega)).trans ((kset_ne (by omega)).trans hgr.1)), ((hexq22 2 (by omega)).trans ((kset_ne (by omega)).trans hgr.2.1)), fun i_o hi_o => ((hexq22 _ (by omega)).trans ((kset_ne (by omega)).trans (hgr.2.2.1 i_o hi_o))), hnr⟩ (by omega) hrc22) 1 ((hexq22 1 (by omega)).trans ((kset_ne (by omega)).trans hgr.1)) rfl rfl rfl (Nat.le_of_ble_eq_true rfl) ⟨rfl, rfl, ⟨(Nat.le_of_ble_eq_true rfl), (Nat.le_of_ble_eq_true rfl)⟩, ⟨(Nat.le_of_ble_eq_true rfl), (Nat.le_of_ble_eq_true rfl)⟩⟩ dX6_addRule_64 (kcV fun w64_o hp => ?_)
      subst hp
      refine k_aload_n h_o 1 dX6_addRule_67 rfl rfl ?_
      refine k_aload h_o 0 dX6_addRule_68 rfl ?_
      obtain ⟨ad2, hd1, hd2⟩ : ∃ ad2 : Nat → Nat, (∀ x_o, x_o ≠ 100 + nr → ad2 x_o = ad x_o) ∧ ad2 (100 + nr) = b_o := ⟨kup ad (100 + nr) b_o, fun x_o hx => kup_ne hx, kup_eq⟩
      have hnw := m_rf_wf (g := g_o) (nr := nr) h8_o
      have hs2 := hst.1.adr hd1 hd2 (by omega) hnw (z1 := x_o) (z2 := y_o) (z3 := u_o) (z4 := v_o) (w2 := (kset (kset wq22 2 (ad 2) (aq 5 12 (kPl (kup (fun i_o => ad (100 + i_o)) nr b_o) (nr + 1)))) 1 (ad 1) (ob 2 [.ref (ad 2), .int (iI ((nr + 1 : Nat) : Int))]))) kset_eq ((kset_ne (by decide)).trans kset_eq) ((kset_ne (by omega)).trans ((kset_ne (by omega)).trans hrc22)) (fun x_o hx => ((kset_ne (by omega)).trans ((kset_ne (by omega)).trans ((hexq22 _ (by omega)).trans ((kset_ne (by omega)).trans rfl)))))
      have hcq : kEx w_o (kset (kset wq22 2 (ad 2) (aq 5 12 (kPl (kup (fun i_o => ad (100 + i_o)) nr b_o) (nr + 1)))) 1 (ad 1) (ob 2 [.ref (ad 2), .int (iI ((nr + 1 : Nat) : Int))])) kPk := (fun x_o hx => ((kset_ne (by omega)).trans ((kset_ne (by omega)).trans ((hexq22 _ (by omega)).trans ((kset_ne (by omega)).trans rfl)))))
      have hft := c_X6_findTouchedBy (E_o := E_o) hl0 hs2 (Nat.lt_succ_self nr) (fun t_o ht hn => (hT t_o ht).ad hnw hn)
      rw [hd1 0 (by omega), hd2] at hft
      refine k_callV (As := [.ref b_o]) (rest := []) h_o mX6_findTouchedBy kq_2_211 (hft) 0 ((kset_ne (by decide)).trans ((kset_ne (by decide)).trans ((hexq22 0 (by omega)).trans ((kset_ne (by omega)).trans hpo)))) rfl rfl rfl (Nat.le_of_ble_eq_true rfl) ⟨rfl, rfl, ⟨(Nat.le_of_ble_eq_true rfl), (Nat.le_of_ble_eq_true rfl)⟩, ⟨(Nat.le_of_ble_eq_true rfl), (Nat.le_of_ble_eq_true rfl)⟩⟩ dX6_addRule_70 (kcI fun z70_o w70_o hp => ?_)
      obtain ⟨rfl, Ns2, hsu2, hex2⟩ := hp
      have hrn : w70_o (100 + nr) = some (b_o, kRl (m_ad g_o nr x_o y_o u_o v_o) nr) := by have q_o := hsu2.1.2.1.2.2.1 nr (Nat.lt_succ_self nr); rw [← hd2]; exact q_o
      refine k_pop h_o dX6_addRule_73 rfl ?_
      refine k_aload h_o 0 dX6_addRule_74 rfl ?_
      refine k_get h_o (100 + nr) kf_X6_84 hrn rfl dX6_addRule_76 ?_
      exact k_iret h_o hr.ret rfl (⟨_, rfl, rfl, h8_o, (by omega), ad2, Ns2, hd1 0 (by omega), hsu2, hcq.trans hex2⟩) (by omega) (by omega) dX6_addRule_79
    · exact k_throw0 (names := ["java/lang/RuntimeException", "java/lang/Exception"]) h_o hr (by decide +kernel) (by decide +kernel) kq_2_136 kq_1_11 kx1_ISE kx2_ISE kx3_ISE dX6_addRule_29 dX6_addRule_32 dX6_addRule_33 dX6_addRule_36 ⟨by decide, by decide, by decide, by decide⟩ (⟨Or.inr ⟨rfl, h8_o, (by omega)⟩, hst, kEx.rfl⟩) (by decide) (by decide)
  · exact k_throw0 (names := ["java/lang/RuntimeException", "java/lang/Exception"]) h_o hr (by decide +kernel) (by decide +kernel) kq_2_64 kq_1_10 kx1_IAE kx2_IAE kx3_IAE dX6_addRule_11 dX6_addRule_14 dX6_addRule_15 dX6_addRule_18 ⟨by decide, by decide, by decide, by decide⟩ (⟨Or.inl ⟨rfl, h8_o⟩, hst, kEx.rfl⟩) (by decide) (by decide)

set_option maxHeartbeats 400000 in
set_option maxRecDepth 100000 in
theorem c_X6_addLetter {E_o : kE} {l_o : Launch} (hl0 : l_o.stackTraces = false) {w_o : kW} {ad : Nat → Nat} {nr : Nat} {g_o : Nat → Nat → Int} {T_o : Nat} {lts : Nat → Nat → Int} {cs : Nat → Int} {acs : Nat → Nat → Int} {ams : Nat → Int} {rel fnd : Int} {Ns : Nat → Nat → Nat} {x_o v_o : Int} (hst : kSu w_o ad nr g_o T_o lts cs acs ams rel fnd Ns) (hx : -2147483648 ≤ x_o ∧ x_o < 2147483648) (hv : -2147483648 ≤ v_o ∧ v_o < 2147483648) : kMX E_o l_o yX6_addLetter (.code yX6_addLetter cX6_addLetter 4 (some .int) :: kAL) { frames := 7, cells := 3, slots := 18, locals := 104 } 3 18 [.ref (ad 0), .int (iI x_o), .int (iI v_o)] w_o (pI (fun z_o w2_o => ((m_TT g_o nr (kup (lts x_o.toNat) (cs x_o.toNat).toNat v_o) 10 0 (cs x_o.toNat + 1 - 1) : Nat) : Int) = z_o ∧ ((0 ≤ x_o ∧ x_o < (T_o : Int)) ∧ m_isL v_o ∧ cs x_o.toNat < 10) ∧ ∃ N2 : Nat → Nat, kSv w_o w2_o ad nr g_o T_o (kup lts x_o.toNat (kup (lts x_o.toNat) (cs x_o.toNat).toNat v_o)) (kup cs x_o.toNat (cs x_o.toNat + 1)) acs ams rel (fnd + (cs x_o.toNat + 1)) (kup Ns x_o.toNat N2))) (fun Ex w2_o => ((Ex = "java/lang/IndexOutOfBoundsException" ∧ ¬ (0 ≤ x_o ∧ x_o < (T_o : Int))) ∨ (Ex = "java/lang/IllegalArgumentException" ∧ (0 ≤ x_o ∧ x_o < (T_o : Int)) ∧ ¬ m_isL v_o) ∨ (Ex = "java/lang/IllegalStateException" ∧ (0 ≤ x_o ∧ x_o < (T_o : Int)) ∧ m_isL v_o ∧ cs x_o.toNat = 10)) ∧ kSv w_o w2_o ad nr g_o T_o lts cs acs ams rel fnd Ns) := by
  refine kMX_of hl0 (by decide +kernel) (Nat.le_of_ble_eq_true rfl) ?_
  intro X_o hXl h_o hr
  subst hXl
  obtain ⟨⟨hpo, hgr, hwf, hts, hsc, hlo, hto, htx, htj⟩, hT⟩ := id hst
  obtain ⟨ls, Nz, cz, hs4, hs5, hs6⟩ := hsc
  obtain ⟨O_o, sk, hly, hOi⟩ := hlo
  obtain ⟨ht15, kn, ht16⟩ := hto
  have hnr := hgr.2.2.2
  have hT6 := hts.2
  show kG E_o X_o 4 0 0 w_o 0 [(0, .ref (ad 0)), (1, .int (iI x_o)), (2, .int (iI v_o))] []
  refine k_aload_n h_o 0 dX6_addLetter_0 rfl rfl ?_
  refine k_iload_n h_o 1 dX6_addLetter_1 rfl rfl ?_
  refine k_callVX (As := [.int (iI x_o)]) (rest := []) h_o mX6_existingText kq_3_110 (c_X6_existingText hl0 hpo hts (by omega)) 0 hpo rfl rfl rfl (Nat.le_of_ble_eq_true rfl) ⟨rfl, rfl, ⟨(Nat.le_of_ble_eq_true rfl), (Nat.le_of_ble_eq_true rfl)⟩, ⟨(Nat.le_of_ble_eq_true rfl), (Nat.le_of_ble_eq_true rfl)⟩⟩ dX6_addLetter_2 (fun Ex wx hx => k_out h_o hr (by obtain ⟨e1, e2, e3⟩ := hx; subst e3; exact ⟨Or.inl ⟨e1, e2⟩, hst, kEx.rfl⟩) (by decide) (by decide)) (kcR fun z2_o w2_o hp => ?_)
  obtain ⟨rfl, hxT, rfl⟩ := hp
  have htxx := htx x_o.toNat (by omega)
  have htjx := htj x_o.toNat (by omega)
  have hTx := hT x_o.toNat (by omega)
  have hcx := htjx.2.2.1
  refine k_get h_o (200 + 5 * x_o.toNat) kf_X6_117 htxx.1 rfl dX6_addLetter_5 ?_
  refine k_astore_n (lv' := [(3, .ref (ad (200 + 5 * x_o.toNat + 1))), (0, .ref (ad 0)), (1, .int (iI x_o)), (2, .int (iI v_o))]) h_o dX6_addLetter_8 rfl (by decide) rfl ?_
  refine k_iload_n h_o 3 dX6_addLetter_9 rfl rfl ?_
  refine k_callSX (As := [.int (iI v_o)]) (rest := []) h_o mX6_requireLetter kq_3_36 (c_X6_requireLetter hl0 (by omega)) rfl rfl (Nat.le_of_ble_eq_true rfl) ⟨rfl, rfl, ⟨(Nat.le_of_ble_eq_true rfl), (Nat.le_of_ble_eq_true rfl)⟩, ⟨(Nat.le_of_ble_eq_true rfl), (Nat.le_of_ble_eq_true rfl)⟩⟩ dX6_addLetter_10 (fun Ex wx hx => k_out h_o hr (by obtain ⟨e1, e2, e3⟩ := hx; subst e3; exact ⟨Or.inr (Or.inl ⟨e1, hxT, e2⟩), hst, kEx.rfl⟩) (by decide) (by decide)) (kcV fun w10_o hp => ?_)
  obtain ⟨hL10, rfl⟩ := hp
  refine k_aload_n h_o 0 dX6_addLetter_13 rfl rfl ?_
  refine k_get h_o (200 + 5 * x_o.toNat + 1) kf_X6_131 htxx.2.1.1 rfl dX6_addLetter_14 ?_
  refine k_bipush h_o dX6_addLetter_17 (by decide) ?_
  refine k_icmp_lt h_o 30 (by omega) (by decide) dX6_addLetter_19 (by decide) (fun h19_o => ?_) (fun h19_o => ?_)
  · have hxN : x_o.toNat < T_o := by omega
    have hlt2 : kLt (kup (lts x_o.toNat) (cs x_o.toNat).toNat v_o) := kLt_up htjx.1 hL10
    refine k_aload_n h_o 0 dX6_addLetter_30 rfl rfl ?_
    refine k_iload_n h_o 3 dX6_addLetter_31 rfl rfl ?_
    refine k_callV (As := [.int (iI v_o)]) (rest := []) h_o mX3_append kq_3_58 (c_X3_append hl0 htxx.2.1 (by omega)) (200 + 5 * x_o.toNat + 1) htxx.2.1.1 rfl rfl rfl (Nat.le_of_ble_eq_true rfl) ⟨rfl, rfl, ⟨(Nat.le_of_ble_eq_true rfl), (Nat.le_of_ble_eq_true rfl)⟩, ⟨(Nat.le_of_ble_eq_true rfl), (Nat.le_of_ble_eq_true rfl)⟩⟩ dX6_addLetter_32 (kcV fun w32_o hp => ?_)
    subst hp
    refine k_aload_n h_o 1 dX6_addLetter_35 rfl rfl ?_
    refine k_dup h_o dX6_addLetter_36 rfl ?_
    refine k_get h_o 0 kf_X6_50 ((kset_ne (by omega)).trans ((kset_ne (by omega)).trans hpo)) rfl dX6_addLetter_37 ?_
    refine k_aload_n h_o 0 dX6_addLetter_40 rfl rfl ?_
    refine k_aload_n h_o 1 dX6_addLetter_41 rfl rfl ?_
    refine k_get h_o 0 kf_X6_12 ((kset_ne (by omega)).trans ((kset_ne (by omega)).trans hpo)) rfl dX6_addLetter_42 ?_
    refine k_aload_n h_o 0 dX6_addLetter_45 rfl rfl ?_
    refine k_get h_o (200 + 5 * x_o.toNat + 1) kf_X6_131 kset_eq rfl dX6_addLetter_46 ?_
    refine k_iconst h_o dX6_addLetter_49 ?_
    refine k_isub h_o dX6_addLetter_50 ?_
    refine k_top (z' := cs x_o.toNat) (by omega) ?_
    refine k_callV (As := [.ref (ad 1), .int (iI (cs x_o.toNat))]) (rest := [.long (lI fnd), .ref (ad 0)]) h_o mX3_findHaving kq_3_62 (c_X3_findHaving hl0 ⟨kset_eq, ((kset_ne (by omega)).trans kset_eq), ((kset_ne (by omega)).trans ((kset_ne (by omega)).trans htxx.2.1.2.2))⟩ hlt2 htjx.2.1 ⟨((kset_ne (by omega)).trans ((kset_ne (by omega)).trans hgr.1)), ((kset_ne (by omega)).trans ((kset_ne (by omega)).trans hgr.2.1)), fun i_o hi_o => (((kset_ne (by omega)).trans ((kset_ne (by omega)).trans rfl)).trans (hgr.2.2.1 i_o hi_o)), hnr⟩ hwf (by omega) (by omega) (by omega) (fun s_o i2 j2 q0 q1 q2 q3 q4 => (hTx s_o i2 j2 q0 q1 q2 (by omega)).trans (m_TT_row q2 (fun p_o e1 e2 => (kup_ne (by omega)).symm)))) (200 + 5 * x_o.toNat + 1) kset_eq rfl rfl rfl (Nat.le_of_ble_eq_true rfl) ⟨rfl, rfl, ⟨(Nat.le_of_ble_eq_true rfl), (Nat.le_of_ble_eq_true rfl)⟩, ⟨(Nat.le_of_ble_eq_true rfl), (Nat.le_of_ble_eq_true rfl)⟩⟩ dX6_addLetter_51 (kcI fun z51_o w51_o hp => ?_)
    obtain ⟨rfl, N2, rfl, hN2, hT2⟩ := hp
    refine k_top (z' := cs x_o.toNat + 1) (m_pl) ?_
    have hs1 := hst.tx hxN (w2 := (kset (kset (kset w_o (200 + 5 * x_o.toNat + 2) (ad (200 + 5 * x_o.toNat + 2)) (ai 10 (kup (lts x_o.toNat) (cs x_o.toNat).toNat v_o))) (200 + 5 * x_o.toNat + 1) (ad (200 + 5 * x_o.toNat + 1)) (ob 5 [.ref (ad (200 + 5 * x_o.toNat + 2)), .ref (ad (200 + 5 * x_o.toNat + 3)), .int (iI ((cs x_o.toNat) + 1))])) (200 + 5 * x_o.toNat + 3) (ad (200 + 5 * x_o.toNat + 3)) (ai 500 (fun x_o => ((N2 x_o : Nat) : Int))))) (lt := (kup (lts x_o.toNat) (cs x_o.toNat).toNat v_o)) (N := N2) (c := cs x_o.toNat + 1) (ac := acs x_o.toNat) (am := ams x_o.toNat) ⟨((kset_ne (by omega)).trans ((kset_ne (by omega)).trans ((kset_ne (by omega)).trans htxx.1))), ⟨((kset_ne (by omega)).trans kset_eq), ((kset_ne (by omega)).trans ((kset_ne (by omega)).trans kset_eq)), kset_eq⟩, ((kset_ne (by omega)).trans ((kset_ne (by omega)).trans ((kset_ne (by omega)).trans htxx.2.2)))⟩ ⟨hlt2, hN2, (by omega), htjx.2.2.2⟩ hT2 (fun x_o hx => ((kset_ne (by omega)).trans ((kset_ne (by omega)).trans ((kset_ne (by omega)).trans rfl))))
    rw [kup_id, kup_id] at hs1
    have hex1 : kEx w_o (kset (kset (kset w_o (200 + 5 * x_o.toNat + 2) (ad (200 + 5 * x_o.toNat + 2)) (ai 10 (kup (lts x_o.toNat) (cs x_o.toNat).toNat v_o))) (200 + 5 * x_o.toNat + 1) (ad (200 + 5 * x_o.toNat + 1)) (ob 5 [.ref (ad (200 + 5 * x_o.toNat + 2)), .ref (ad (200 + 5 * x_o.toNat + 3)), .int (iI ((cs x_o.toNat) + 1))])) (200 + 5 * x_o.toNat + 3) (ad (200 + 5 * x_o.toNat + 3)) (ai 500 (fun x_o => ((N2 x_o : Nat) : Int)))) kPk := (fun x_o hx => ((kset_ne (by omega)).trans ((kset_ne (by omega)).trans ((kset_ne (by omega)).trans rfl))))
    refine k_i2l h_o (by omega) dX6_addLetter_54 ?_
    refine k_ladd h_o dX6_addLetter_55 ?_
    refine k_put (fs' := [.ref (ad 1), .ref (ad 3), .ref (ad 4), .ref (ad 7), .ref (ad 15), .int (iI (T_o : Int)), .int (iI rel), .long (lI (fnd + (cs x_o.toNat + 1)))]) h_o 0 kf_X6_50 kt_X6_7 ((kset_ne (by omega)).trans ((kset_ne (by omega)).trans ((kset_ne (by omega)).trans hpo))) rfl rfl (Nat.le_of_ble_eq_true rfl) rfl dX6_addLetter_56 ?_
    refine k_aload_n h_o 0 dX6_addLetter_59 rfl rfl ?_
    refine k_callV (As := []) (rest := []) h_o mX3_treesOfAll kq_1_173 (c_X3_treesOfAll hl0 ⟨((kset_ne (by omega)).trans ((kset_ne (by omega)).trans kset_eq)), ((kset_ne (by omega)).trans ((kset_ne (by omega)).trans ((kset_ne (by omega)).trans kset_eq))), ((kset_ne (by omega)).trans kset_eq)⟩ hlt2 hN2 (by omega)) (200 + 5 * x_o.toNat + 1) ((kset_ne (by omega)).trans ((kset_ne (by omega)).trans kset_eq)) rfl rfl rfl (Nat.le_of_ble_eq_true rfl) ⟨rfl, rfl, ⟨(Nat.le_of_ble_eq_true rfl), (Nat.le_of_ble_eq_true rfl)⟩, ⟨(Nat.le_of_ble_eq_true rfl), (Nat.le_of_ble_eq_true rfl)⟩⟩ dX6_addLetter_60 (kcI fun z60_o w60_o hp => ?_)
    obtain ⟨rfl, rfl⟩ := hp
    refine k_top (z' := ((m_TT g_o nr (kup (lts x_o.toNat) (cs x_o.toNat).toNat v_o) 10 0 (cs x_o.toNat + 1 - 1) : Nat) : Int)) (kTr_all hT2 (by omega)) ?_
    exact k_iret h_o hr.ret rfl (⟨_, rfl, rfl, ⟨hxT, hL10, h19_o⟩, N2, ⟨hs1.1.po kset_eq (kEx.kset rfl), hs1.2⟩, (hex1.trans (kEx.kset (Or.inl (by decide))))⟩) (by omega) (by omega) dX6_addLetter_63
  · exact k_throw0 (names := ["java/lang/RuntimeException", "java/lang/Exception"]) h_o hr (by decide +kernel) (by decide +kernel) kq_2_136 kq_1_11 kx1_ISE kx2_ISE kx3_ISE dX6_addLetter_22 dX6_addLetter_25 dX6_addLetter_26 dX6_addLetter_29 ⟨by decide, by decide, by decide, by decide⟩ (⟨Or.inr (Or.inr ⟨rfl, hxT, hL10, (by omega)⟩), hst, kEx.rfl⟩) (by decide) (by decide)

set_option maxHeartbeats 400000 in
set_option maxRecDepth 100000 in
theorem c_X6_replace {E_o : kE} {l_o : Launch} (hl0 : l_o.stackTraces = false) {w_o : kW} {ad : Nat → Nat} {nr : Nat} {g_o : Nat → Nat → Int} {T_o : Nat} {lts : Nat → Nat → Int} {cs : Nat → Int} {acs : Nat → Nat → Int} {ams : Nat → Int} {rel fnd : Int} {Ns : Nat → Nat → Nat} {x_o p_o v_o : Int} (hst : kSu w_o ad nr g_o T_o lts cs acs ams rel fnd Ns) (hx : -2147483648 ≤ x_o ∧ x_o < 2147483648) (hp : -2147483648 ≤ p_o ∧ p_o < 2147483648) (hv : -2147483648 ≤ v_o ∧ v_o < 2147483648) : kMX E_o l_o yX6_replace (.code yX6_replace cX6_replace 5 (some .int) :: kAL) { frames := 7, cells := 3, slots := 18, locals := 104 } 3 18 [.ref (ad 0), .int (iI x_o), .int (iI p_o), .int (iI v_o)] w_o (pI (fun z_o w2_o => ((m_TT g_o nr (kup (lts x_o.toNat) p_o.toNat v_o) 10 0 (cs x_o.toNat - 1) : Nat) : Int) = z_o ∧ (((0 ≤ x_o ∧ x_o < (T_o : Int)) ∧ 0 ≤ p_o ∧ p_o < cs x_o.toNat) ∧ m_isL v_o) ∧ ∃ N2 : Nat → Nat, kSv w_o w2_o ad nr g_o T_o (kup lts x_o.toNat (kup (lts x_o.toNat) p_o.toNat v_o)) cs acs ams rel (fnd + (p_o + 1) * (cs x_o.toNat - p_o)) (kup Ns x_o.toNat N2))) (fun Ex w2_o => ((Ex = "java/lang/IndexOutOfBoundsException" ∧ ¬ ((0 ≤ x_o ∧ x_o < (T_o : Int)) ∧ 0 ≤ p_o ∧ p_o < cs x_o.toNat)) ∨ (Ex = "java/lang/IllegalArgumentException" ∧ ((0 ≤ x_o ∧ x_o < (T_o : Int)) ∧ 0 ≤ p_o ∧ p_o < cs x_o.toNat) ∧ ¬ m_isL v_o)) ∧ kSv w_o w2_o ad nr g_o T_o lts cs acs ams rel fnd Ns) := by
  refine kMX_of hl0 (by decide +kernel) (Nat.le_of_ble_eq_true rfl) ?_
  intro X_o hXl h_o hr
  subst hXl
  obtain ⟨⟨hpo, hgr, hwf, hts, hsc, hlo, hto, htx, htj⟩, hT⟩ := id hst
  obtain ⟨ls, Nz, cz, hs4, hs5, hs6⟩ := hsc
  obtain ⟨O_o, sk, hly, hOi⟩ := hlo
  obtain ⟨ht15, kn, ht16⟩ := hto
  have hnr := hgr.2.2.2
  have hT6 := hts.2
  show kG E_o X_o 5 0 0 w_o 0 [(0, .ref (ad 0)), (1, .int (iI x_o)), (2, .int (iI p_o)), (3, .int (iI v_o))] []
  refine k_aload_n h_o 0 dX6_replace_0 rfl rfl ?_
  refine k_iload_n h_o 1 dX6_replace_1 rfl rfl ?_
  refine k_callVX (As := [.int (iI x_o)]) (rest := []) h_o mX6_existingText kq_3_110 (c_X6_existingText hl0 hpo hts (by omega)) 0 hpo rfl rfl rfl (Nat.le_of_ble_eq_true rfl) ⟨rfl, rfl, ⟨(Nat.le_of_ble_eq_true rfl), (Nat.le_of_ble_eq_true rfl)⟩, ⟨(Nat.le_of_ble_eq_true rfl), (Nat.le_of_ble_eq_true rfl)⟩⟩ dX6_replace_2 (fun Ex wx hx => k_out h_o hr (by obtain ⟨e1, e2, e3⟩ := hx; subst e3; exact ⟨Or.inl ⟨e1, fun q_o => e2 q_o.1⟩, hst, kEx.rfl⟩) (by decide) (by decide)) (kcR fun z2_o w2_o hp => ?_)
  obtain ⟨rfl, hxT, rfl⟩ := hp
  have htxx := htx x_o.toNat (by omega)
  have htjx := htj x_o.toNat (by omega)
  have hTx := hT x_o.toNat (by omega)
  have hcx := htjx.2.2.1
  refine k_get h_o (200 + 5 * x_o.toNat) kf_X6_117 htxx.1 rfl dX6_replace_5 ?_
  refine k_astore (lv' := [(4, .ref (ad (200 + 5 * x_o.toNat + 1))), (0, .ref (ad 0)), (1, .int (iI x_o)), (2, .int (iI p_o)), (3, .int (iI v_o))]) h_o dX6_replace_8 (by decide) rfl ?_
  refine k_aload h_o 0 dX6_replace_10 rfl ?_
  refine k_iload_n h_o 3 dX6_replace_12 rfl rfl ?_
  refine k_callSX (As := [.ref (ad (200 + 5 * x_o.toNat + 1)), .int (iI p_o)]) (rest := []) h_o mX6_requirePlace kq_3_136 (c_X6_requirePlace hl0 htxx.2.1 (by omega) (by omega)) rfl rfl (Nat.le_of_ble_eq_true rfl) ⟨rfl, rfl, ⟨(Nat.le_of_ble_eq_true rfl), (Nat.le_of_ble_eq_true rfl)⟩, ⟨(Nat.le_of_ble_eq_true rfl), (Nat.le_of_ble_eq_true rfl)⟩⟩ dX6_replace_13 (fun Ex wx hx => k_out h_o hr (by obtain ⟨e1, e2, e3⟩ := hx; subst e3; exact ⟨Or.inl ⟨e1, fun q_o => e2 q_o.2⟩, hst, kEx.rfl⟩) (by decide) (by decide)) (kcV fun w13_o hp => ?_)
  obtain ⟨hP13, rfl⟩ := hp
  refine k_iload_n h_o 4 dX6_replace_16 rfl rfl ?_
  refine k_callSX (As := [.int (iI v_o)]) (rest := []) h_o mX6_requireLetter kq_3_36 (c_X6_requireLetter hl0 (by omega)) rfl rfl (Nat.le_of_ble_eq_true rfl) ⟨rfl, rfl, ⟨(Nat.le_of_ble_eq_true rfl), (Nat.le_of_ble_eq_true rfl)⟩, ⟨(Nat.le_of_ble_eq_true rfl), (Nat.le_of_ble_eq_true rfl)⟩⟩ dX6_replace_17 (fun Ex wx hx => k_out h_o hr (by obtain ⟨e1, e2, e3⟩ := hx; subst e3; exact ⟨Or.inr ⟨e1, ⟨hxT, hP13⟩, e2⟩, hst, kEx.rfl⟩) (by decide) (by decide)) (kcV fun w17_o hp => ?_)
  obtain ⟨hL17, rfl⟩ := hp
  have hxN : x_o.toNat < T_o := by omega
  have hlt2 : kLt (kup (lts x_o.toNat) p_o.toNat v_o) := kLt_up htjx.1 hL17
  have hpc := m_pc hP13 hcx.2
  refine k_aload h_o 0 dX6_replace_20 rfl ?_
  refine k_iload_n h_o 3 dX6_replace_22 rfl rfl ?_
  refine k_iload_n h_o 4 dX6_replace_23 rfl rfl ?_
  refine k_callV (As := [.int (iI p_o), .int (iI v_o)]) (rest := []) h_o mX3_put kq_3_139 (c_X3_put hl0 htxx.2.1 (by omega)) (200 + 5 * x_o.toNat + 1) htxx.2.1.1 rfl rfl rfl (Nat.le_of_ble_eq_true rfl) ⟨rfl, rfl, ⟨(Nat.le_of_ble_eq_true rfl), (Nat.le_of_ble_eq_true rfl)⟩, ⟨(Nat.le_of_ble_eq_true rfl), (Nat.le_of_ble_eq_true rfl)⟩⟩ dX6_replace_24 (kcV fun w24_o hp => ?_)
  subst hp
  refine k_aload_n h_o 1 dX6_replace_27 rfl rfl ?_
  refine k_dup h_o dX6_replace_28 rfl ?_
  refine k_get h_o 0 kf_X6_50 ((kset_ne (by omega)).trans hpo) rfl dX6_replace_29 ?_
  refine k_aload h_o 0 dX6_replace_32 rfl ?_
  refine k_aload_n h_o 1 dX6_replace_34 rfl rfl ?_
  refine k_get h_o 0 kf_X6_12 ((kset_ne (by omega)).trans hpo) rfl dX6_replace_35 ?_
  refine k_iload_n h_o 3 dX6_replace_38 rfl rfl ?_
  refine k_callV (As := [.ref (ad 1), .int (iI p_o)]) (rest := [.long (lI fnd), .ref (ad 0)]) h_o mX3_findHaving kq_3_62 (c_X3_findHaving hl0 ⟨((kset_ne (by omega)).trans htxx.2.1.1), kset_eq, ((kset_ne (by omega)).trans htxx.2.1.2.2)⟩ hlt2 htjx.2.1 ⟨((kset_ne (by omega)).trans hgr.1), ((kset_ne (by omega)).trans hgr.2.1), fun i_o hi_o => (((kset_ne (by omega)).trans rfl).trans (hgr.2.2.1 i_o hi_o)), hnr⟩ hwf (by omega) hP13 hcx.2 (fun s_o i2 j2 q0 q1 q2 q3 q4 => (hTx s_o i2 j2 q0 q1 q2 q3).trans (m_TT_row q2 (fun y_o e1 e2 => (kup_ne (by omega)).symm)))) (200 + 5 * x_o.toNat + 1) ((kset_ne (by omega)).trans htxx.2.1.1) rfl rfl rfl (Nat.le_of_ble_eq_true rfl) ⟨rfl, rfl, ⟨(Nat.le_of_ble_eq_true rfl), (Nat.le_of_ble_eq_true rfl)⟩, ⟨(Nat.le_of_ble_eq_true rfl), (Nat.le_of_ble_eq_true rfl)⟩⟩ dX6_replace_39 (kcI fun z39_o w39_o hp => ?_)
  obtain ⟨rfl, N2, rfl, hN2, hT2⟩ := hp
  refine k_top (z' := (p_o + 1) * (cs x_o.toNat - p_o)) (rfl) ?_
  have hs1 := hst.tx hxN (w2 := (kset (kset w_o (200 + 5 * x_o.toNat + 2) (ad (200 + 5 * x_o.toNat + 2)) (ai 10 (kup (lts x_o.toNat) p_o.toNat v_o))) (200 + 5 * x_o.toNat + 3) (ad (200 + 5 * x_o.toNat + 3)) (ai 500 (fun x_o => ((N2 x_o : Nat) : Int))))) (lt := (kup (lts x_o.toNat) p_o.toNat v_o)) (N := N2) (c := cs x_o.toNat) (ac := acs x_o.toNat) (am := ams x_o.toNat) ⟨((kset_ne (by omega)).trans ((kset_ne (by omega)).trans htxx.1)), ⟨((kset_ne (by omega)).trans ((kset_ne (by omega)).trans htxx.2.1.1)), ((kset_ne (by omega)).trans kset_eq), kset_eq⟩, ((kset_ne (by omega)).trans ((kset_ne (by omega)).trans htxx.2.2))⟩ ⟨hlt2, hN2, hcx, htjx.2.2.2⟩ hT2 (fun x_o hx => ((kset_ne (by omega)).trans ((kset_ne (by omega)).trans rfl)))
  rw [kup_id, kup_id] at hs1
  have hex1 : kEx w_o (kset (kset w_o (200 + 5 * x_o.toNat + 2) (ad (200 + 5 * x_o.toNat + 2)) (ai 10 (kup (lts x_o.toNat) p_o.toNat v_o))) (200 + 5 * x_o.toNat + 3) (ad (200 + 5 * x_o.toNat + 3)) (ai 500 (fun x_o => ((N2 x_o : Nat) : Int)))) kPk := (fun x_o hx => ((kset_ne (by omega)).trans ((kset_ne (by omega)).trans rfl)))
  rw [kup_id] at hs1
  refine k_i2l h_o (by omega) dX6_replace_42 ?_
  refine k_ladd h_o dX6_replace_43 ?_
  refine k_put (fs' := [.ref (ad 1), .ref (ad 3), .ref (ad 4), .ref (ad 7), .ref (ad 15), .int (iI (T_o : Int)), .int (iI rel), .long (lI (fnd + ((p_o + 1) * (cs x_o.toNat - p_o))))]) h_o 0 kf_X6_50 kt_X6_7 ((kset_ne (by omega)).trans ((kset_ne (by omega)).trans hpo)) rfl rfl (Nat.le_of_ble_eq_true rfl) rfl dX6_replace_44 ?_
  refine k_aload h_o 0 dX6_replace_47 rfl ?_
  refine k_callV (As := []) (rest := []) h_o mX3_treesOfAll kq_1_173 (c_X3_treesOfAll hl0 ⟨((kset_ne (by omega)).trans ((kset_ne (by omega)).trans ((kset_ne (by omega)).trans htxx.2.1.1))), ((kset_ne (by omega)).trans ((kset_ne (by omega)).trans kset_eq)), ((kset_ne (by omega)).trans kset_eq)⟩ hlt2 hN2 hcx) (200 + 5 * x_o.toNat + 1) ((kset_ne (by omega)).trans ((kset_ne (by omega)).trans ((kset_ne (by omega)).trans htxx.2.1.1))) rfl rfl rfl (Nat.le_of_ble_eq_true rfl) ⟨rfl, rfl, ⟨(Nat.le_of_ble_eq_true rfl), (Nat.le_of_ble_eq_true rfl)⟩, ⟨(Nat.le_of_ble_eq_true rfl), (Nat.le_of_ble_eq_true rfl)⟩⟩ dX6_replace_49 (kcI fun z49_o w49_o hp => ?_)
  obtain ⟨rfl, rfl⟩ := hp
  refine k_top (z' := ((m_TT g_o nr (kup (lts x_o.toNat) p_o.toNat v_o) 10 0 (cs x_o.toNat - 1) : Nat) : Int)) (kTr_all hT2 hcx) ?_
  exact k_iret h_o hr.ret rfl (⟨_, rfl, rfl, ⟨⟨hxT, hP13⟩, hL17⟩, N2, ⟨hs1.1.po kset_eq (kEx.kset rfl), hs1.2⟩, (hex1.trans (kEx.kset (Or.inl (by decide))))⟩) (by omega) (by omega) dX6_replace_52

set_option maxHeartbeats 400000 in
set_option maxRecDepth 100000 in
theorem c_X6_addText {E_o : kE} {l_o : Launch} (hl0 : l_o.stackTraces = false) {w_o : kW} {ad : Nat → Nat} {nr : Nat} {g_o : Nat → Nat → Int} {T_o : Nat} {lts : Nat → Nat → Int} {cs : Nat → Int} {acs : Nat → Nat → Int} {ams : Nat → Int} {rel fnd : Int} {Ns : Nat → Nat → Nat} {x_o : Int} (hst : kSu w_o ad nr g_o T_o lts cs acs ams rel fnd Ns) (hx : -2147483648 ≤ x_o ∧ x_o < 2147483648) : kMX E_o l_o yX6_addText (.code yX6_addText cX6_addText 4 (some .int) :: kAL) { frames := 7, cells := 7, slots := 630, locals := 104 } 7 630 [.ref (ad 0), .int (iI x_o)] w_o (pI (fun z_o w2_o => (T_o : Int) = z_o ∧ m_isL x_o ∧ T_o < 6 ∧ ∃ (ad2 : Nat → Nat) (N2 : Nat → Nat), ad2 0 = ad 0 ∧ kSv w_o w2_o ad2 nr g_o (T_o + 1) (kup lts T_o (kup (fun _ => 0) (0 : Int).toNat x_o)) (kup cs T_o 1) (kup acs T_o (fun _ => 0)) (kup ams T_o 0) rel (fnd + 1) (kup Ns T_o N2))) (fun Ex w2_o => ((Ex = "java/lang/IllegalArgumentException" ∧ ¬ m_isL x_o) ∨ (Ex = "java/lang/IllegalStateException" ∧ m_isL x_o ∧ T_o = 6)) ∧ kSv w_o w2_o ad nr g_o T_o lts cs acs ams rel fnd Ns) := by
  refine kMX_of hl0 (by decide +kernel) (Nat.le_of_ble_eq_true rfl) ?_
  intro X_o hXl h_o hr
  subst hXl
  obtain ⟨⟨hpo, hgr, hwf, hts, hsc, hlo, hto, htx, htj⟩, hT⟩ := id hst
  obtain ⟨ls, Nz, cz, hs4, hs5, hs6⟩ := hsc
  obtain ⟨O_o, sk, hly, hOi⟩ := hlo
  obtain ⟨ht15, kn, ht16⟩ := hto
  have hnr := hgr.2.2.2
  have hT6 := hts.2
  show kG E_o X_o 4 0 0 w_o 0 [(0, .ref (ad 0)), (1, .int (iI x_o))] []
  refine k_iload_n h_o 1 dX6_addText_0 rfl rfl ?_
  refine k_callSX (As := [.int (iI x_o)]) (rest := []) h_o mX6_requireLetter kq_3_36 (c_X6_requireLetter hl0 (by omega)) rfl rfl (Nat.le_of_ble_eq_true rfl) ⟨rfl, rfl, ⟨(Nat.le_of_ble_eq_true rfl), (Nat.le_of_ble_eq_true rfl)⟩, ⟨(Nat.le_of_ble_eq_true rfl), (Nat.le_of_ble_eq_true rfl)⟩⟩ dX6_addText_1 (fun Ex wx hx => k_out h_o hr (by obtain ⟨e1, e2, e3⟩ := hx; subst e3; exact ⟨Or.inl ⟨e1, e2⟩, hst, kEx.rfl⟩) (by decide) (by decide)) (kcV fun w1_o hp => ?_)
  obtain ⟨hL1, rfl⟩ := hp
  refine k_aload_n h_o 0 dX6_addText_4 rfl rfl ?_
  refine k_get h_o 0 kf_X6_43 hpo rfl dX6_addText_5 ?_
  refine k_iflt h_o 23 (by omega) dX6_addText_8 (by decide) (fun h8_o => ?_) (fun h8_o => ?_)
  · exfalso; omega
  · refine k_aload_n h_o 0 dX6_addText_11 rfl rfl ?_
    refine k_get h_o 0 kf_X6_43 hpo rfl dX6_addText_12 ?_
    refine k_aload_n h_o 0 dX6_addText_15 rfl rfl ?_
    refine k_get h_o 0 kf_X6_18 hpo rfl dX6_addText_16 ?_
    refine k_alen h_o 3 hts.1 rfl dX6_addText_19 ?_
    show kG E_o X_o 4 _ _ _ _ _ (.int (iI 6) :: _)
    refine k_icmp_lt h_o 31 (by omega) (by decide) dX6_addText_20 (by decide) (fun h20_o => ?_) (fun h20_o => ?_)
    · refine k_new (ci := 6) (fs := [.null, .null, .int (iI 0)]) h_o (200 + 5 * T_o) rfl kwl_X4 tyX4_ok kq_1_48 kq_3_39 kq_1_14 (fun j_o hj => by rcases j_o with _ | _ | _ | _ | _ | _ | _ | _ | _ | _ | _ | _ | _ | _ | _ | _ | _ | _ | _ | _ | _ | _ | _ | _ | _ | j_o <;> first | rfl | omega) ⟨(Nat.le_of_ble_eq_true rfl), (Nat.le_of_ble_eq_true rfl)⟩ dX6_addText_31 (fun b_o => ?_)
      refine k_dup h_o dX6_addText_34 rfl ?_
      refine k_callIN (As := []) (rest := [.ref b_o]) h_o mX4_init kq_3_40 (c_X4_init hl0 kset_eq) rfl rfl (Nat.le_of_ble_eq_true rfl) ⟨rfl, rfl, ⟨(Nat.le_of_ble_eq_true rfl), (Nat.le_of_ble_eq_true rfl)⟩, ⟨(Nat.le_of_ble_eq_true rfl), (Nat.le_of_ble_eq_true rfl)⟩⟩ dX6_addText_35 (kcV fun wq23 hp => ?_)
      obtain ⟨⟨aS, la, na, aA, ht1, ht2, ht3⟩, hexq23⟩ := hp
      refine k_astore_n (lv' := [(2, .ref b_o), (0, .ref (ad 0)), (1, .int (iI x_o))]) h_o dX6_addText_38 rfl (by decide) rfl ?_
      refine k_aload_n h_o 0 dX6_addText_39 rfl rfl ?_
      refine k_get h_o (200 + 5 * T_o) kf_X6_117 ht1 rfl dX6_addText_40 ?_
      refine k_iload_n h_o 2 dX6_addText_43 rfl rfl ?_
      refine k_callV (As := [.int (iI x_o)]) (rest := []) h_o mX3_append kq_3_58 (c_X3_append hl0 ht2 (by omega)) (200 + 5 * T_o + 1) ht2.1 rfl rfl rfl (Nat.le_of_ble_eq_true rfl) ⟨rfl, rfl, ⟨(Nat.le_of_ble_eq_true rfl), (Nat.le_of_ble_eq_true rfl)⟩, ⟨(Nat.le_of_ble_eq_true rfl), (Nat.le_of_ble_eq_true rfl)⟩⟩ dX6_addText_44 (kcV fun w44_o hp => ?_)
      subst hp
      refine k_aload_n h_o 1 dX6_addText_47 rfl rfl ?_
      refine k_get h_o 0 kf_X6_43 ((kset_ne (by omega)).trans ((kset_ne (by omega)).trans ((hexq23 0 (by omega)).trans ((kset_ne (by omega)).trans hpo)))) rfl dX6_addText_48 ?_
      refine k_istore_n (lv' := [(3, .int (iI (T_o : Int))), (2, .ref b_o), (0, .ref (ad 0)), (1, .int (iI x_o))]) h_o dX6_addText_51 rfl (by decide) rfl ?_
      refine k_aload_n h_o 2 dX6_addText_52 rfl rfl ?_
      refine k_get h_o 0 kf_X6_18 ((kset_ne (by omega)).trans ((kset_ne (by omega)).trans ((hexq23 0 (by omega)).trans ((kset_ne (by omega)).trans hpo)))) rfl dX6_addText_53 ?_
      refine k_iload_n h_o 0 dX6_addText_56 rfl rfl ?_
      refine k_aload_n h_o 1 dX6_addText_57 rfl rfl ?_
      refine k_aast h_o 3 (200 + 5 * T_o) ((kset_ne (by omega)).trans ((kset_ne (by omega)).trans ((hexq23 3 (by omega)).trans ((kset_ne (by omega)).trans hts.1)))) rfl ((kset_ne (by omega)).trans ((kset_ne (by omega)).trans ht1)) rfl (by omega) (by decide) dX6_addText_58 ?_
      refine k_aload_n h_o 2 dX6_addText_59 rfl rfl ?_
      refine k_dup h_o dX6_addText_60 rfl ?_
      refine k_get h_o 0 kf_X6_43 ((kset_ne (by decide)).trans ((kset_ne (by omega)).trans ((kset_ne (by omega)).trans ((hexq23 0 (by omega)).trans ((kset_ne (by omega)).trans hpo))))) rfl dX6_addText_61 ?_
      refine k_iconst h_o dX6_addText_64 ?_
      refine k_iadd h_o dX6_addText_65 ?_
      refine k_top (z' := ((T_o + 1 : Nat) : Int)) (by omega) ?_
      refine k_put (fs' := [.ref (ad 1), .ref (ad 3), .ref (ad 4), .ref (ad 7), .ref (ad 15), .int (iI ((T_o + 1 : Nat) : Int)), .int (iI rel), .long (lI fnd)]) h_o 0 kf_X6_43 kt_X6_5 ((kset_ne (by decide)).trans ((kset_ne (by omega)).trans ((kset_ne (by omega)).trans ((hexq23 0 (by omega)).trans ((kset_ne (by omega)).trans hpo))))) rfl rfl (Nat.le_of_ble_eq_true rfl) rfl dX6_addText_66 ?_
      refine k_aload_n h_o 2 dX6_addText_69 rfl rfl ?_
      refine k_dup h_o dX6_addText_70 rfl ?_
      refine k_get h_o 0 kf_X6_50 kset_eq rfl dX6_addText_71 ?_
      refine k_aload_n h_o 1 dX6_addText_74 rfl rfl ?_
      refine k_get h_o (200 + 5 * T_o) kf_X6_117 ((kset_ne (by omega)).trans ((kset_ne (by omega)).trans ((kset_ne (by omega)).trans ((kset_ne (by omega)).trans ht1)))) rfl dX6_addText_75 ?_
      refine k_aload_n h_o 2 dX6_addText_78 rfl rfl ?_
      refine k_get h_o 0 kf_X6_12 kset_eq rfl dX6_addText_79 ?_
      refine k_iconst h_o dX6_addText_82 ?_
      refine k_callV (As := [.ref (ad 1), .int (iI 0)]) (rest := [.long (lI fnd), .ref (ad 0)]) h_o mX3_findHaving kq_3_62 (c_X3_findHaving hl0 ⟨((kset_ne (by omega)).trans ((kset_ne (by omega)).trans kset_eq)), ((kset_ne (by omega)).trans ((kset_ne (by omega)).trans ((kset_ne (by omega)).trans kset_eq))), ((kset_ne (by omega)).trans ((kset_ne (by omega)).trans ((kset_ne (by omega)).trans ((kset_ne (by omega)).trans ht2.2.2))))⟩ (kLt_up (fun _ => by show (0 : Int) ≤ 0 ∧ (0 : Int) < 8; decide) hL1) (fun _ => Nat.zero_le _) ⟨((kset_ne (by decide)).trans ((kset_ne (by decide)).trans ((kset_ne (by omega)).trans ((kset_ne (by omega)).trans ((hexq23 1 (by omega)).trans ((kset_ne (by omega)).trans hgr.1)))))), ((kset_ne (by decide)).trans ((kset_ne (by decide)).trans ((kset_ne (by omega)).trans ((kset_ne (by omega)).trans ((hexq23 2 (by omega)).trans ((kset_ne (by omega)).trans hgr.2.1)))))), fun i_o hi_o => (((kset_ne (by omega)).trans ((kset_ne (by omega)).trans ((kset_ne (by omega)).trans ((kset_ne (by omega)).trans ((hexq23 _ (by omega)).trans ((kset_ne (by omega)).trans rfl)))))).trans (hgr.2.2.1 i_o hi_o)), hnr⟩ hwf (by omega) (by omega) (by omega) (fun s_o i2 j2 q0 q1 q2 q3 q4 => by exfalso; omega)) (200 + 5 * T_o + 1) ((kset_ne (by omega)).trans ((kset_ne (by omega)).trans kset_eq)) rfl rfl rfl (Nat.le_of_ble_eq_true rfl) ⟨rfl, rfl, ⟨(Nat.le_of_ble_eq_true rfl), (Nat.le_of_ble_eq_true rfl)⟩, ⟨(Nat.le_of_ble_eq_true rfl), (Nat.le_of_ble_eq_true rfl)⟩⟩ dX6_addText_83 (kcI fun z83_o w83_o hp => ?_)
      obtain ⟨rfl, N2, rfl, hN2, hT2⟩ := hp
      refine k_top (z' := 1) (by omega) ?_
      refine k_i2l h_o (by decide) dX6_addText_86 ?_
      refine k_ladd h_o dX6_addText_87 ?_
      refine k_put (fs' := [.ref (ad 1), .ref (ad 3), .ref (ad 4), .ref (ad 7), .ref (ad 15), .int (iI ((T_o + 1 : Nat) : Int)), .int (iI rel), .long (lI (fnd + 1))]) h_o 0 kf_X6_50 kt_X6_7 ((kset_ne (by omega)).trans kset_eq) rfl rfl (Nat.le_of_ble_eq_true rfl) rfl dX6_addText_88 ?_
      have hfin := hst.addt (ad2 := m_a5 ad (200 + 5 * T_o) b_o aS la na aA) (w2 := (kset (kset (kset (kset (kset (kset wq23 (200 + 5 * T_o + 2) la (ai 10 (kup (fun _ => 0) (0 : Int).toNat x_o))) (200 + 5 * T_o + 1) aS (ob 5 [.ref la, .ref na, .int (iI (0 + 1))])) 3 (ad 3) (aq 6 6 (kup (kPl (fun t_o => ad (200 + 5 * t_o)) T_o) ((T_o : Int).toNat) (some b_o)))) 0 (ad 0) (ob 8 [.ref (ad 1), .ref (ad 3), .ref (ad 4), .ref (ad 7), .ref (ad 15), .int (iI ((T_o + 1 : Nat) : Int)), .int (iI rel), .long (lI fnd)])) (200 + 5 * T_o + 3) na (ai 500 (fun x_o => ((N2 x_o : Nat) : Int)))) 0 (ad 0) (ob 8 [.ref (ad 1), .ref (ad 3), .ref (ad 4), .ref (ad 7), .ref (ad 15), .int (iI ((T_o + 1 : Nat) : Int)), .int (iI rel), .long (lI (fnd + 1))]))) (lt := (kup (fun _ => 0) (0 : Int).toNat x_o)) (N := N2) (c := 1) (ac := fun _ => 0) (am := 0) (fnd2 := fnd + 1) (fun x_o hx => m_a5_x hx) (by omega) (by unfold kPo; rw [m_a5_x (by omega), m_a5_x (by omega), m_a5_x (by omega), m_a5_x (by omega), m_a5_x (by omega), m_a5_x (by omega)]; exact kset_eq) (by rw [m_a5_x (by omega), kPl_cg (f2 := fun t_o => m_a5 ad (200 + 5 * T_o) b_o aS la na aA (200 + 5 * t_o)) (f := kup (fun t_o => ad (200 + 5 * t_o)) T_o b_o) (n := T_o + 1) (fun i_o hi_o => by by_cases e_o : i_o = T_o; rw [e_o, kup_eq]; exact m_a5_0; rw [kup_ne e_o]; exact m_a5_x (by omega)), ← kPl_up]; exact ((kset_ne (by decide)).trans ((kset_ne (by omega)).trans ((kset_ne (by decide)).trans kset_eq)))) (by unfold kTx; rw [m_a5_0, m_a5_1, m_a5_2, m_a5_3, m_a5_4]; exact ⟨((kset_ne (by omega)).trans ((kset_ne (by omega)).trans ((kset_ne (by omega)).trans ((kset_ne (by omega)).trans ((kset_ne (by omega)).trans ((kset_ne (by omega)).trans ht1)))))), ⟨((kset_ne (by omega)).trans ((kset_ne (by omega)).trans ((kset_ne (by omega)).trans ((kset_ne (by omega)).trans kset_eq)))), ((kset_ne (by omega)).trans ((kset_ne (by omega)).trans ((kset_ne (by omega)).trans ((kset_ne (by omega)).trans ((kset_ne (by omega)).trans kset_eq))))), ((kset_ne (by omega)).trans kset_eq)⟩, ((kset_ne (by omega)).trans ((kset_ne (by omega)).trans ((kset_ne (by omega)).trans ((kset_ne (by omega)).trans ((kset_ne (by omega)).trans ((kset_ne (by omega)).trans ht3))))))⟩) ⟨kLt_up (fun _ => by show (0 : Int) ≤ 0 ∧ (0 : Int) < 8; decide) hL1, hN2, by omega, by omega, fun _ => by show (0 : Int) ≤ 0 ∧ (0 : Int) < 12; decide⟩ hT2 (fun x_o hx => ((kset_ne (by omega)).trans ((kset_ne (by omega)).trans ((kset_ne (by omega)).trans ((kset_ne (by omega)).trans ((kset_ne (by omega)).trans ((kset_ne (by omega)).trans ((hexq23 _ (by omega)).trans ((kset_ne (by omega)).trans rfl)))))))))
      refine k_iload_n h_o 0 dX6_addText_91 rfl rfl ?_
      exact k_iret h_o hr.ret rfl (⟨_, rfl, rfl, hL1, (by omega), m_a5 ad (200 + 5 * T_o) b_o aS la na aA, N2, m_a5_x (by omega), hfin, (fun x_o hx => ((kset_ne (by omega)).trans ((kset_ne (by omega)).trans ((kset_ne (by omega)).trans ((kset_ne (by omega)).trans ((kset_ne (by omega)).trans ((kset_ne (by omega)).trans ((hexq23 _ (by omega)).trans ((kset_ne (by omega)).trans rfl)))))))))⟩) (by omega) (by omega) dX6_addText_92
    · exact k_throw0 (names := ["java/lang/RuntimeException", "java/lang/Exception"]) h_o hr (by decide +kernel) (by decide +kernel) kq_2_136 kq_1_11 kx1_ISE kx2_ISE kx3_ISE dX6_addText_23 dX6_addText_26 dX6_addText_27 dX6_addText_30 ⟨by decide, by decide, by decide, by decide⟩ (⟨Or.inr ⟨rfl, hL1, (by omega)⟩, hst, kEx.rfl⟩) (by decide) (by decide)
