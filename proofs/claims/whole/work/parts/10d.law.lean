set_option maxHeartbeats 4000000 in
set_option maxRecDepth 100000 in
theorem c_L_addRule {E_o : kE} {l_o : Launch} (hl0 : l_o.stackTraces = false) {w_o : kW} {ad : Nat → Nat} {nr : Nat} {g_o : Nat → Nat → Int} {T_o : Nat} {lts : Nat → Nat → Int} {cs : Nat → Int} {acs : Nat → Nat → Int} {ams : Nat → Int} {rel fnd : Int} {Ns : Nat → Nat → Nat} {x_o y_o u_o v_o : Int} {aO : Nat} {fO : Nat → Int} (hst : kSu w_o ad nr g_o T_o lts cs acs ams rel fnd Ns) (hx : -2147483648 ≤ x_o ∧ x_o < 2147483648) (hy : -2147483648 ≤ y_o ∧ y_o < 2147483648) (hu : -2147483648 ≤ u_o ∧ u_o < 2147483648) (hv : -2147483648 ≤ v_o ∧ v_o < 2147483648) (hO : w_o 17 = some (aO, al 1 fO)) : kMN E_o l_o yL_addRule (.codeWith yL_addRule cL_addRule 7 (some .int) [(0, 14, 17, 13), (0, 14, 21, 15)] :: kAL) { frames := 7, cells := 2, slots := 15, locals := 153 } 2 15 [.ref (ad 0), .int (iI x_o), .int (iI y_o), .int (iI u_o), .int (iI v_o), .ref aO] w_o (pI (fun k_o w2_o => (0 = k_o ∧ ∃ z_o : Int, ((nr : Nat) : Int) = z_o ∧ m_rf x_o y_o u_o v_o ∧ nr < 12 ∧ w2_o 17 = some (aO, al 1 (kup fO 0 (m_w z_o))) ∧ kEx w_o w2_o kP7 ∧ ∃ (ad2 : Nat → Nat) (Ns2 : Nat → Nat → Nat), ad2 0 = ad 0 ∧ kSu w2_o ad2 (nr + 1) (m_ad g_o nr x_o y_o u_o v_o) T_o lts cs acs ams rel (fnd + m_tf (fun t_o => t_o < T_o ∧ m_has (lts t_o) (cs t_o) (m_ad g_o nr x_o y_o u_o v_o) nr) (fun t_o => cs t_o * (cs t_o + 1) / 2) 6) Ns2) ∨ (1 = k_o ∧ ¬ m_rf x_o y_o u_o v_o ∧ w2_o 17 = some (aO, al 1 fO) ∧ kEx w_o w2_o kP7 ∧ kSu w2_o ad nr g_o T_o lts cs acs ams rel fnd Ns) ∨ (2 = k_o ∧ (m_rf x_o y_o u_o v_o ∧ nr = 12) ∧ w2_o 17 = some (aO, al 1 fO) ∧ kEx w_o w2_o kP7 ∧ kSu w2_o ad nr g_o T_o lts cs acs ams rel fnd Ns))) := by
  refine kMN_of hl0 (by decide +kernel) (Nat.le_of_ble_eq_true rfl) ?_
  intro X_o hXl h_o hr htab hNc
  subst hXl
  show kG E_o X_o 7 0 0 w_o 0 [(0, .ref (ad 0)), (1, .int (iI x_o)), (2, .int (iI y_o)), (3, .int (iI u_o)), (4, .int (iI v_o)), (5, .ref aO)] []
  refine k_aload h_o 5 dL_addRule_0 rfl ?_
  refine k_iconst h_o dL_addRule_2 ?_
  refine k_aload_n h_o 0 dL_addRule_3 rfl rfl ?_
  refine k_iload_n h_o 1 dL_addRule_4 rfl rfl ?_
  refine k_iload_n h_o 2 dL_addRule_5 rfl rfl ?_
  refine k_iload_n h_o 3 dL_addRule_6 rfl rfl ?_
  refine k_iload h_o 4 dL_addRule_7 rfl ?_
  refine k_callVX (As := [.int (iI x_o), .int (iI y_o), .int (iI u_o), .int (iI v_o)]) (rest := [.int (iI 0), .ref aO]) h_o mX6_addRule kq_2_50 (c_X6_addRule hl0 hst hx hy hu hv) 0 hst.1.1 rfl rfl rfl (Nat.le_of_ble_eq_true rfl) ⟨rfl, rfl, ⟨(Nat.le_of_ble_eq_true rfl), (Nat.le_of_ble_eq_true rfl)⟩, ⟨(Nat.le_of_ble_eq_true rfl), (Nat.le_of_ble_eq_true rfl)⟩⟩ dL_addRule_9 ?_ (kcI fun z1_o w1_o hp => ?_)
  · intro Ex wx hx
    rcases hx with ⟨⟨rfl, e1⟩ | ⟨rfl, e1, e2⟩, hsuX, hexX⟩
    · refine k_catch h_o htab [] ⟨0, 14, 17, 13⟩ [⟨0, 14, 21, 15⟩] rfl (fun z_o hz => by cases hz) rfl (by decide) kq_2_48 kq_2_66 (fun qx => ?_)
      refine k_astore (lv' := [(6, .ref qx), (0, .ref (ad 0)), (1, .int (iI x_o)), (2, .int (iI y_o)), (3, .int (iI u_o)), (4, .int (iI v_o)), (5, .ref aO)]) h_o dL_addRule_17 (by decide) rfl ?_
      refine k_iconst h_o dL_addRule_19 ?_
      exact k_iret h_o hr rfl (⟨_, rfl, Or.inr (Or.inl ⟨rfl, e1, ((hexX 17 (by show ¬ (17 ≤ 16 ∨ 100 ≤ 17); omega)).trans hO), (hexX.sub kPk_P7), hsuX⟩)⟩) (by omega) (by omega) dL_addRule_20
    · refine k_catch h_o htab [⟨0, 14, 17, 13⟩] ⟨0, 14, 21, 15⟩ [] rfl (fun z_o hz => by rcases List.mem_cons.mp hz with rfl | hz; exact Or.inr ⟨(by decide), _, kq_2_48, hNc _ (List.mem_of_getElem? (i := 0) rfl)⟩; cases hz) rfl (by decide) kq_2_49 kq_2_138 (fun qx => ?_)
      refine k_astore (lv' := [(6, .ref qx), (0, .ref (ad 0)), (1, .int (iI x_o)), (2, .int (iI y_o)), (3, .int (iI u_o)), (4, .int (iI v_o)), (5, .ref aO)]) h_o dL_addRule_21 (by decide) rfl ?_
      refine k_iconst h_o dL_addRule_23 ?_
      exact k_iret h_o hr rfl (⟨_, rfl, Or.inr (Or.inr ⟨rfl, ⟨e1, e2⟩, ((hexX 17 (by show ¬ (17 ≤ 16 ∨ 100 ≤ 17); omega)).trans hO), (hexX.sub kPk_P7), hsuX⟩)⟩) (by omega) (by omega) dL_addRule_24
  obtain ⟨e0, e1, e2, ad2, Ns2, e3, hsuX, hexX⟩ := hp
  have hO1 := ((hexX 17 (by show ¬ (17 ≤ 16 ∨ 100 ≤ 17); omega)).trans hO)
  refine k_i2lW h_o dL_addRule_12 ?_
  refine k_last h_o 17 hO1 (by decide) (by decide) dL_addRule_13 ?_
  refine k_goto h_o 25 dL_addRule_14 (by decide) ?_
  refine k_iconst h_o dL_addRule_25 ?_
  exact k_iret h_o hr rfl (⟨_, rfl, Or.inl ⟨rfl, z1_o, e0, e1, e2, kset_eq, ((hexX.sub kPk_P7).trans (kEx.kset (Or.inl (by decide)))), ad2, Ns2, e3, (hsuX.ox (kEx.kset (by show 17 ≤ 17 ∧ 17 ≤ 44; decide)))⟩⟩) (by omega) (by omega) dL_addRule_26

set_option maxHeartbeats 4000000 in
set_option maxRecDepth 100000 in
theorem c_L_dropRule {E_o : kE} {l_o : Launch} (hl0 : l_o.stackTraces = false) {w_o : kW} {ad : Nat → Nat} {nr : Nat} {g_o : Nat → Nat → Int} {T_o : Nat} {lts : Nat → Nat → Int} {cs : Nat → Int} {acs : Nat → Nat → Int} {ams : Nat → Int} {rel fnd : Int} {Ns : Nat → Nat → Nat} {x_o : Int} {aO : Nat} {fO : Nat → Int} (hst : kSu w_o ad nr g_o T_o lts cs acs ams rel fnd Ns) (hx : -2147483648 ≤ x_o ∧ x_o < 2147483648) (hO : w_o 17 = some (aO, al 1 fO)) : kMN E_o l_o yL_dropRule (.codeWith yL_dropRule cL_dropRule 4 (some .int) [(0, 9, 12, 21)] :: kAL) { frames := 8, cells := 1, slots := 6, locals := 150 } 1 6 [.ref (ad 0), .int (iI x_o), .ref aO] w_o (pI (fun k_o w2_o => (0 = k_o ∧ ∃ z_o : Int, m_tc (fun t_o => t_o < T_o ∧ m_has (lts t_o) (cs t_o) (m_up g_o 8 x_o.toNat 1) x_o.toNat) 6 = z_o ∧ m_live g_o nr x_o ∧ w2_o 17 = some (aO, al 1 (kup fO 0 (m_w z_o))) ∧ kEx w_o w2_o kP7 ∧ ∃ (Ns2 : Nat → Nat → Nat), kSu w2_o ad nr (m_up g_o 8 x_o.toNat 1) T_o lts cs acs ams rel (fnd + m_tf (fun t_o => t_o < T_o ∧ m_has (lts t_o) (cs t_o) (m_up g_o 8 x_o.toNat 1) x_o.toNat) (fun t_o => cs t_o * (cs t_o + 1) / 2) 6) Ns2) ∨ (1 = k_o ∧ ¬ m_live g_o nr x_o ∧ w2_o 17 = some (aO, al 1 fO) ∧ kEx w_o w2_o kP7 ∧ kSu w2_o ad nr g_o T_o lts cs acs ams rel fnd Ns))) := by
  refine kMN_of hl0 (by decide +kernel) (Nat.le_of_ble_eq_true rfl) ?_
  intro X_o hXl h_o hr htab hNc
  subst hXl
  show kG E_o X_o 4 0 0 w_o 0 [(0, .ref (ad 0)), (1, .int (iI x_o)), (2, .ref aO)] []
  refine k_aload_n h_o 2 dL_dropRule_0 rfl rfl ?_
  refine k_iconst h_o dL_dropRule_1 ?_
  refine k_aload_n h_o 0 dL_dropRule_2 rfl rfl ?_
  refine k_iload_n h_o 1 dL_dropRule_3 rfl rfl ?_
  refine k_callVX (As := [.int (iI x_o)]) (rest := [.int (iI 0), .ref aO]) h_o mX6_dropRule kq_2_228 (c_X6_dropRule hl0 hst hx) 0 hst.1.1 rfl rfl rfl (Nat.le_of_ble_eq_true rfl) ⟨rfl, rfl, ⟨(Nat.le_of_ble_eq_true rfl), (Nat.le_of_ble_eq_true rfl)⟩, ⟨(Nat.le_of_ble_eq_true rfl), (Nat.le_of_ble_eq_true rfl)⟩⟩ dL_dropRule_4 ?_ (kcI fun z1_o w1_o hp => ?_)
  · intro Ex wx hx
    obtain ⟨⟨rfl, e1⟩, hsuX, hexX⟩ := hx
    refine k_catch h_o htab [] ⟨0, 9, 12, 21⟩ [] rfl (fun z_o hz => by cases hz) rfl (by decide) kq_2_227 kq_2_239 (fun qx => ?_)
    refine k_astore_n (lv' := [(3, .ref qx), (0, .ref (ad 0)), (1, .int (iI x_o)), (2, .ref aO)]) h_o dL_dropRule_12 rfl (by decide) rfl ?_
    refine k_iconst h_o dL_dropRule_13 ?_
    exact k_iret h_o hr rfl (⟨_, rfl, Or.inr ⟨rfl, e1, ((hexX 17 (by show ¬ (17 ≤ 16 ∨ 100 ≤ 17); omega)).trans hO), (hexX.sub kPk_P7), hsuX⟩⟩) (by omega) (by omega) dL_dropRule_14
  obtain ⟨e0, e1, Ns2, hsuX, hexX⟩ := hp
  have hO1 := ((hexX 17 (by show ¬ (17 ≤ 16 ∨ 100 ≤ 17); omega)).trans hO)
  refine k_i2lW h_o dL_dropRule_7 ?_
  refine k_last h_o 17 hO1 (by decide) (by decide) dL_dropRule_8 ?_
  refine k_goto h_o 15 dL_dropRule_9 (by decide) ?_
  refine k_iconst h_o dL_dropRule_15 ?_
  exact k_iret h_o hr rfl (⟨_, rfl, Or.inl ⟨rfl, z1_o, e0, e1, kset_eq, ((hexX.sub kPk_P7).trans (kEx.kset (Or.inl (by decide)))), Ns2, (hsuX.ox (kEx.kset (by show 17 ≤ 17 ∧ 17 ≤ 44; decide)))⟩⟩) (by omega) (by omega) dL_dropRule_16

set_option maxHeartbeats 4000000 in
set_option maxRecDepth 100000 in
theorem c_L_setRank {E_o : kE} {l_o : Launch} (hl0 : l_o.stackTraces = false) {w_o : kW} {ad : Nat → Nat} {nr : Nat} {g_o : Nat → Nat → Int} {T_o : Nat} {lts : Nat → Nat → Int} {cs : Nat → Int} {acs : Nat → Nat → Int} {ams : Nat → Int} {rel fnd : Int} {Ns : Nat → Nat → Nat} {x_o v_o : Int} {aO : Nat} {fO : Nat → Int} (hst : kSu w_o ad nr g_o T_o lts cs acs ams rel fnd Ns) (hx : -2147483648 ≤ x_o ∧ x_o < 2147483648) (hv : -2147483648 ≤ v_o ∧ v_o < 2147483648) (hO : w_o 17 = some (aO, al 1 fO)) : kMN E_o l_o yL_setRank (.codeWith yL_setRank cL_setRank 5 (some .int) [(0, 10, 13, 21), (0, 10, 17, 13)] :: kAL) { frames := 8, cells := 2, slots := 12, locals := 127 } 2 12 [.ref (ad 0), .int (iI x_o), .int (iI v_o), .ref aO] w_o (pI (fun k_o w2_o => (0 = k_o ∧ ∃ z_o : Int, g_o 5 x_o.toNat = z_o ∧ m_live g_o nr x_o ∧ (0 ≤ v_o ∧ v_o ≤ 9) ∧ w2_o 17 = some (aO, al 1 (kup fO 0 (m_w z_o))) ∧ kEx w_o w2_o kP7 ∧ kSu w2_o ad nr (m_up g_o 5 x_o.toNat v_o) T_o lts cs acs ams rel fnd Ns) ∨ (1 = k_o ∧ ¬ m_live g_o nr x_o ∧ w2_o 17 = some (aO, al 1 fO) ∧ kEx w_o w2_o kP7 ∧ kSu w2_o ad nr g_o T_o lts cs acs ams rel fnd Ns) ∨ (2 = k_o ∧ (m_live g_o nr x_o ∧ ¬ (0 ≤ v_o ∧ v_o ≤ 9)) ∧ w2_o 17 = some (aO, al 1 fO) ∧ kEx w_o w2_o kP7 ∧ kSu w2_o ad nr g_o T_o lts cs acs ams rel fnd Ns))) := by
  refine kMN_of hl0 (by decide +kernel) (Nat.le_of_ble_eq_true rfl) ?_
  intro X_o hXl h_o hr htab hNc
  subst hXl
  show kG E_o X_o 5 0 0 w_o 0 [(0, .ref (ad 0)), (1, .int (iI x_o)), (2, .int (iI v_o)), (3, .ref aO)] []
  refine k_aload_n h_o 3 dL_setRank_0 rfl rfl ?_
  refine k_iconst h_o dL_setRank_1 ?_
  refine k_aload_n h_o 0 dL_setRank_2 rfl rfl ?_
  refine k_iload_n h_o 1 dL_setRank_3 rfl rfl ?_
  refine k_iload_n h_o 2 dL_setRank_4 rfl rfl ?_
  refine k_callVX (As := [.int (iI x_o), .int (iI v_o)]) (rest := [.int (iI 0), .ref aO]) h_o mX6_setRank kq_3_15 (c_X6_setRank hl0 hst hx hv) 0 hst.1.1 rfl rfl rfl (Nat.le_of_ble_eq_true rfl) ⟨rfl, rfl, ⟨(Nat.le_of_ble_eq_true rfl), (Nat.le_of_ble_eq_true rfl)⟩, ⟨(Nat.le_of_ble_eq_true rfl), (Nat.le_of_ble_eq_true rfl)⟩⟩ dL_setRank_5 ?_ (kcI fun z1_o w1_o hp => ?_)
  · intro Ex wx hx
    rcases hx with ⟨⟨rfl, e1⟩ | ⟨rfl, e1, e2⟩, hsuX, hexX⟩
    · refine k_catch h_o htab [] ⟨0, 10, 13, 21⟩ [⟨0, 10, 17, 13⟩] rfl (fun z_o hz => by cases hz) rfl (by decide) kq_2_227 kq_2_239 (fun qx => ?_)
      refine k_astore (lv' := [(4, .ref qx), (0, .ref (ad 0)), (1, .int (iI x_o)), (2, .int (iI v_o)), (3, .ref aO)]) h_o dL_setRank_13 (by decide) rfl ?_
      refine k_iconst h_o dL_setRank_15 ?_
      exact k_iret h_o hr rfl (⟨_, rfl, Or.inr (Or.inl ⟨rfl, e1, ((hexX 17 (by show ¬ (17 ≤ 16 ∨ 100 ≤ 17); omega)).trans hO), (hexX.sub kPk_P7), hsuX⟩)⟩) (by omega) (by omega) dL_setRank_16
    · refine k_catch h_o htab [⟨0, 10, 13, 21⟩] ⟨0, 10, 17, 13⟩ [] rfl (fun z_o hz => by rcases List.mem_cons.mp hz with rfl | hz; exact Or.inr ⟨(by decide), _, kq_2_227, hNc _ (List.mem_of_getElem? (i := 2) rfl)⟩; cases hz) rfl (by decide) kq_2_48 kq_2_66 (fun qx => ?_)
      refine k_astore (lv' := [(4, .ref qx), (0, .ref (ad 0)), (1, .int (iI x_o)), (2, .int (iI v_o)), (3, .ref aO)]) h_o dL_setRank_17 (by decide) rfl ?_
      refine k_iconst h_o dL_setRank_19 ?_
      exact k_iret h_o hr rfl (⟨_, rfl, Or.inr (Or.inr ⟨rfl, ⟨e1, e2⟩, ((hexX 17 (by show ¬ (17 ≤ 16 ∨ 100 ≤ 17); omega)).trans hO), (hexX.sub kPk_P7), hsuX⟩)⟩) (by omega) (by omega) dL_setRank_20
  obtain ⟨e0, e1, e2, hsuX, hexX⟩ := hp
  have hO1 := ((hexX 17 (by show ¬ (17 ≤ 16 ∨ 100 ≤ 17); omega)).trans hO)
  refine k_i2lW h_o dL_setRank_8 ?_
  refine k_last h_o 17 hO1 (by decide) (by decide) dL_setRank_9 ?_
  refine k_goto h_o 21 dL_setRank_10 (by decide) ?_
  refine k_iconst h_o dL_setRank_21 ?_
  exact k_iret h_o hr rfl (⟨_, rfl, Or.inl ⟨rfl, z1_o, e0, e1, e2, kset_eq, ((hexX.sub kPk_P7).trans (kEx.kset (Or.inl (by decide)))), (hsuX.ox (kEx.kset (by show 17 ≤ 17 ∧ 17 ≤ 44; decide)))⟩⟩) (by omega) (by omega) dL_setRank_22

set_option maxHeartbeats 4000000 in
set_option maxRecDepth 100000 in
theorem c_L_setStyle {E_o : kE} {l_o : Launch} (hl0 : l_o.stackTraces = false) {w_o : kW} {ad : Nat → Nat} {nr : Nat} {g_o : Nat → Nat → Int} {T_o : Nat} {lts : Nat → Nat → Int} {cs : Nat → Int} {acs : Nat → Nat → Int} {ams : Nat → Int} {rel fnd : Int} {Ns : Nat → Nat → Nat} {x_o u_o v_o : Int} {aO : Nat} {fO : Nat → Int} (hst : kSu w_o ad nr g_o T_o lts cs acs ams rel fnd Ns) (hx : -2147483648 ≤ x_o ∧ x_o < 2147483648) (hu : -2147483648 ≤ u_o ∧ u_o < 2147483648) (hv : -2147483648 ≤ v_o ∧ v_o < 2147483648) (hO : w_o 17 = some (aO, al 1 fO)) : kMN E_o l_o yL_setStyle (.codeWith yL_setStyle cL_setStyle 6 (some .int) [(0, 12, 15, 21), (0, 12, 19, 13)] :: kAL) { frames := 8, cells := 2, slots := 12, locals := 128 } 2 12 [.ref (ad 0), .int (iI x_o), .int (iI u_o), .int (iI v_o), .ref aO] w_o (pI (fun k_o w2_o => (0 = k_o ∧ ∃ z_o : Int, 10 * g_o 6 x_o.toNat + g_o 7 x_o.toNat = z_o ∧ m_live g_o nr x_o ∧ ((0 ≤ u_o ∧ u_o ≤ 9) ∧ 0 ≤ v_o ∧ v_o ≤ 3) ∧ w2_o 17 = some (aO, al 1 (kup fO 0 (m_w z_o))) ∧ kEx w_o w2_o kP7 ∧ kSu w2_o ad nr (m_up (m_up g_o 6 x_o.toNat u_o) 7 x_o.toNat v_o) T_o lts cs acs ams rel fnd Ns) ∨ (1 = k_o ∧ ¬ m_live g_o nr x_o ∧ w2_o 17 = some (aO, al 1 fO) ∧ kEx w_o w2_o kP7 ∧ kSu w2_o ad nr g_o T_o lts cs acs ams rel fnd Ns) ∨ (2 = k_o ∧ (m_live g_o nr x_o ∧ ¬ ((0 ≤ u_o ∧ u_o ≤ 9) ∧ 0 ≤ v_o ∧ v_o ≤ 3)) ∧ w2_o 17 = some (aO, al 1 fO) ∧ kEx w_o w2_o kP7 ∧ kSu w2_o ad nr g_o T_o lts cs acs ams rel fnd Ns))) := by
  refine kMN_of hl0 (by decide +kernel) (Nat.le_of_ble_eq_true rfl) ?_
  intro X_o hXl h_o hr htab hNc
  subst hXl
  show kG E_o X_o 6 0 0 w_o 0 [(0, .ref (ad 0)), (1, .int (iI x_o)), (2, .int (iI u_o)), (3, .int (iI v_o)), (4, .ref aO)] []
  refine k_aload h_o 4 dL_setStyle_0 rfl ?_
  refine k_iconst h_o dL_setStyle_2 ?_
  refine k_aload_n h_o 0 dL_setStyle_3 rfl rfl ?_
  refine k_iload_n h_o 1 dL_setStyle_4 rfl rfl ?_
  refine k_iload_n h_o 2 dL_setStyle_5 rfl rfl ?_
  refine k_iload_n h_o 3 dL_setStyle_6 rfl rfl ?_
  refine k_callVX (As := [.int (iI x_o), .int (iI u_o), .int (iI v_o)]) (rest := [.int (iI 0), .ref aO]) h_o mX6_setStyle kq_3_25 (c_X6_setStyle hl0 hst hx hu hv) 0 hst.1.1 rfl rfl rfl (Nat.le_of_ble_eq_true rfl) ⟨rfl, rfl, ⟨(Nat.le_of_ble_eq_true rfl), (Nat.le_of_ble_eq_true rfl)⟩, ⟨(Nat.le_of_ble_eq_true rfl), (Nat.le_of_ble_eq_true rfl)⟩⟩ dL_setStyle_7 ?_ (kcI fun z1_o w1_o hp => ?_)
  · intro Ex wx hx
    rcases hx with ⟨⟨rfl, e1⟩ | ⟨rfl, e1, e2⟩, hsuX, hexX⟩
    · refine k_catch h_o htab [] ⟨0, 12, 15, 21⟩ [⟨0, 12, 19, 13⟩] rfl (fun z_o hz => by cases hz) rfl (by decide) kq_2_227 kq_2_239 (fun qx => ?_)
      refine k_astore (lv' := [(5, .ref qx), (0, .ref (ad 0)), (1, .int (iI x_o)), (2, .int (iI u_o)), (3, .int (iI v_o)), (4, .ref aO)]) h_o dL_setStyle_15 (by decide) rfl ?_
      refine k_iconst h_o dL_setStyle_17 ?_
      exact k_iret h_o hr rfl (⟨_, rfl, Or.inr (Or.inl ⟨rfl, e1, ((hexX 17 (by show ¬ (17 ≤ 16 ∨ 100 ≤ 17); omega)).trans hO), (hexX.sub kPk_P7), hsuX⟩)⟩) (by omega) (by omega) dL_setStyle_18
    · refine k_catch h_o htab [⟨0, 12, 15, 21⟩] ⟨0, 12, 19, 13⟩ [] rfl (fun z_o hz => by rcases List.mem_cons.mp hz with rfl | hz; exact Or.inr ⟨(by decide), _, kq_2_227, hNc _ (List.mem_of_getElem? (i := 2) rfl)⟩; cases hz) rfl (by decide) kq_2_48 kq_2_66 (fun qx => ?_)
      refine k_astore (lv' := [(5, .ref qx), (0, .ref (ad 0)), (1, .int (iI x_o)), (2, .int (iI u_o)), (3, .int (iI v_o)), (4, .ref aO)]) h_o dL_setStyle_19 (by decide) rfl ?_
      refine k_iconst h_o dL_setStyle_21 ?_
      exact k_iret h_o hr rfl (⟨_, rfl, Or.inr (Or.inr ⟨rfl, ⟨e1, e2⟩, ((hexX 17 (by show ¬ (17 ≤ 16 ∨ 100 ≤ 17); omega)).trans hO), (hexX.sub kPk_P7), hsuX⟩)⟩) (by omega) (by omega) dL_setStyle_22
  obtain ⟨e0, e1, e2, hsuX, hexX⟩ := hp
  have hO1 := ((hexX 17 (by show ¬ (17 ≤ 16 ∨ 100 ≤ 17); omega)).trans hO)
  refine k_i2lW h_o dL_setStyle_10 ?_
  refine k_last h_o 17 hO1 (by decide) (by decide) dL_setStyle_11 ?_
  refine k_goto h_o 23 dL_setStyle_12 (by decide) ?_
  refine k_iconst h_o dL_setStyle_23 ?_
  exact k_iret h_o hr rfl (⟨_, rfl, Or.inl ⟨rfl, z1_o, e0, e1, e2, kset_eq, ((hexX.sub kPk_P7).trans (kEx.kset (Or.inl (by decide)))), (hsuX.ox (kEx.kset (by show 17 ≤ 17 ∧ 17 ≤ 44; decide)))⟩⟩) (by omega) (by omega) dL_setStyle_24

set_option maxHeartbeats 4000000 in
set_option maxRecDepth 100000 in
theorem c_L_addText {E_o : kE} {l_o : Launch} (hl0 : l_o.stackTraces = false) {w_o : kW} {ad : Nat → Nat} {nr : Nat} {g_o : Nat → Nat → Int} {T_o : Nat} {lts : Nat → Nat → Int} {cs : Nat → Int} {acs : Nat → Nat → Int} {ams : Nat → Int} {rel fnd : Int} {Ns : Nat → Nat → Nat} {x_o : Int} {aO : Nat} {fO : Nat → Int} (hst : kSu w_o ad nr g_o T_o lts cs acs ams rel fnd Ns) (hx : -2147483648 ≤ x_o ∧ x_o < 2147483648) (hO : w_o 17 = some (aO, al 1 fO)) : kMN E_o l_o yL_addText (.codeWith yL_addText cL_addText 4 (some .int) [(0, 9, 12, 13), (0, 9, 15, 15)] :: kAL) { frames := 8, cells := 7, slots := 630, locals := 127 } 7 630 [.ref (ad 0), .int (iI x_o), .ref aO] w_o (pI (fun k_o w2_o => (0 = k_o ∧ ∃ z_o : Int, ((T_o : Nat) : Int) = z_o ∧ m_isL x_o ∧ T_o < 6 ∧ w2_o 17 = some (aO, al 1 (kup fO 0 (m_w z_o))) ∧ kEx w_o w2_o kP7 ∧ ∃ (ad2 : Nat → Nat) (N2 : Nat → Nat), ad2 0 = ad 0 ∧ kSu w2_o ad2 nr g_o (T_o + 1) (kup lts T_o (kup (fun _ => 0) (0 : Int).toNat x_o)) (kup cs T_o 1) (kup acs T_o (fun _ => 0)) (kup ams T_o 0) rel (fnd + 1) (kup Ns T_o N2)) ∨ (1 = k_o ∧ ¬ m_isL x_o ∧ w2_o 17 = some (aO, al 1 fO) ∧ kEx w_o w2_o kP7 ∧ kSu w2_o ad nr g_o T_o lts cs acs ams rel fnd Ns) ∨ (2 = k_o ∧ (m_isL x_o ∧ T_o = 6) ∧ w2_o 17 = some (aO, al 1 fO) ∧ kEx w_o w2_o kP7 ∧ kSu w2_o ad nr g_o T_o lts cs acs ams rel fnd Ns))) := by
  refine kMN_of hl0 (by decide +kernel) (Nat.le_of_ble_eq_true rfl) ?_
  intro X_o hXl h_o hr htab hNc
  subst hXl
  show kG E_o X_o 4 0 0 w_o 0 [(0, .ref (ad 0)), (1, .int (iI x_o)), (2, .ref aO)] []
  refine k_aload_n h_o 2 dL_addText_0 rfl rfl ?_
  refine k_iconst h_o dL_addText_1 ?_
  refine k_aload_n h_o 0 dL_addText_2 rfl rfl ?_
  refine k_iload_n h_o 1 dL_addText_3 rfl rfl ?_
  refine k_callVX (As := [.int (iI x_o)]) (rest := [.int (iI 0), .ref aO]) h_o mX6_addText kq_3_32 (c_X6_addText hl0 hst hx) 0 hst.1.1 rfl rfl rfl (Nat.le_of_ble_eq_true rfl) ⟨rfl, rfl, ⟨(Nat.le_of_ble_eq_true rfl), (Nat.le_of_ble_eq_true rfl)⟩, ⟨(Nat.le_of_ble_eq_true rfl), (Nat.le_of_ble_eq_true rfl)⟩⟩ dL_addText_4 ?_ (kcI fun z1_o w1_o hp => ?_)
  · intro Ex wx hx
    rcases hx with ⟨⟨rfl, e1⟩ | ⟨rfl, e1, e2⟩, hsuX, hexX⟩
    · refine k_catch h_o htab [] ⟨0, 9, 12, 13⟩ [⟨0, 9, 15, 15⟩] rfl (fun z_o hz => by cases hz) rfl (by decide) kq_2_48 kq_2_66 (fun qx => ?_)
      refine k_astore_n (lv' := [(3, .ref qx), (0, .ref (ad 0)), (1, .int (iI x_o)), (2, .ref aO)]) h_o dL_addText_12 rfl (by decide) rfl ?_
      refine k_iconst h_o dL_addText_13 ?_
      exact k_iret h_o hr rfl (⟨_, rfl, Or.inr (Or.inl ⟨rfl, e1, ((hexX 17 (by show ¬ (17 ≤ 16 ∨ 100 ≤ 17); omega)).trans hO), (hexX.sub kPk_P7), hsuX⟩)⟩) (by omega) (by omega) dL_addText_14
    · refine k_catch h_o htab [⟨0, 9, 12, 13⟩] ⟨0, 9, 15, 15⟩ [] rfl (fun z_o hz => by rcases List.mem_cons.mp hz with rfl | hz; exact Or.inr ⟨(by decide), _, kq_2_48, hNc _ (List.mem_of_getElem? (i := 0) rfl)⟩; cases hz) rfl (by decide) kq_2_49 kq_2_138 (fun qx => ?_)
      refine k_astore_n (lv' := [(3, .ref qx), (0, .ref (ad 0)), (1, .int (iI x_o)), (2, .ref aO)]) h_o dL_addText_15 rfl (by decide) rfl ?_
      refine k_iconst h_o dL_addText_16 ?_
      exact k_iret h_o hr rfl (⟨_, rfl, Or.inr (Or.inr ⟨rfl, ⟨e1, e2⟩, ((hexX 17 (by show ¬ (17 ≤ 16 ∨ 100 ≤ 17); omega)).trans hO), (hexX.sub kPk_P7), hsuX⟩)⟩) (by omega) (by omega) dL_addText_17
  obtain ⟨e0, e1, e2, ad2, N2, e3, hsuX, hexX⟩ := hp
  have hO1 := ((hexX 17 (by show ¬ (17 ≤ 16 ∨ 100 ≤ 17); omega)).trans hO)
  refine k_i2lW h_o dL_addText_7 ?_
  refine k_last h_o 17 hO1 (by decide) (by decide) dL_addText_8 ?_
  refine k_goto h_o 18 dL_addText_9 (by decide) ?_
  refine k_iconst h_o dL_addText_18 ?_
  exact k_iret h_o hr rfl (⟨_, rfl, Or.inl ⟨rfl, z1_o, e0, e1, e2, kset_eq, ((hexX.sub kPk_P7).trans (kEx.kset (Or.inl (by decide)))), ad2, N2, e3, (hsuX.ox (kEx.kset (by show 17 ≤ 17 ∧ 17 ≤ 44; decide)))⟩⟩) (by omega) (by omega) dL_addText_19

set_option maxHeartbeats 4000000 in
set_option maxRecDepth 100000 in
theorem c_L_addLetter {E_o : kE} {l_o : Launch} (hl0 : l_o.stackTraces = false) {w_o : kW} {ad : Nat → Nat} {nr : Nat} {g_o : Nat → Nat → Int} {T_o : Nat} {lts : Nat → Nat → Int} {cs : Nat → Int} {acs : Nat → Nat → Int} {ams : Nat → Int} {rel fnd : Int} {Ns : Nat → Nat → Nat} {x_o v_o : Int} {aO : Nat} {fO : Nat → Int} (hst : kSu w_o ad nr g_o T_o lts cs acs ams rel fnd Ns) (hx : -2147483648 ≤ x_o ∧ x_o < 2147483648) (hv : -2147483648 ≤ v_o ∧ v_o < 2147483648) (hO : w_o 17 = some (aO, al 1 fO)) : kMN E_o l_o yL_addLetter (.codeWith yL_addLetter cL_addLetter 5 (some .int) [(0, 10, 13, 37), (0, 10, 17, 13), (0, 10, 21, 15)] :: kAL) { frames := 8, cells := 3, slots := 18, locals := 127 } 3 18 [.ref (ad 0), .int (iI x_o), .int (iI v_o), .ref aO] w_o (pI (fun k_o w2_o => (0 = k_o ∧ ∃ z_o : Int, ((m_TT g_o nr (kup (lts x_o.toNat) (cs x_o.toNat).toNat v_o) 10 0 (cs x_o.toNat + 1 - 1) : Nat) : Int) = z_o ∧ ((0 ≤ x_o ∧ x_o < (T_o : Int)) ∧ m_isL v_o ∧ cs x_o.toNat < 10) ∧ w2_o 17 = some (aO, al 1 (kup fO 0 (m_w z_o))) ∧ kEx w_o w2_o kP7 ∧ ∃ (N2 : Nat → Nat), kSu w2_o ad nr g_o T_o (kup lts x_o.toNat (kup (lts x_o.toNat) (cs x_o.toNat).toNat v_o)) (kup cs x_o.toNat (cs x_o.toNat + 1)) acs ams rel (fnd + (cs x_o.toNat + 1)) (kup Ns x_o.toNat N2)) ∨ (1 = k_o ∧ ¬ (0 ≤ x_o ∧ x_o < (T_o : Int)) ∧ w2_o 17 = some (aO, al 1 fO) ∧ kEx w_o w2_o kP7 ∧ kSu w2_o ad nr g_o T_o lts cs acs ams rel fnd Ns) ∨ (2 = k_o ∧ ((0 ≤ x_o ∧ x_o < (T_o : Int)) ∧ ¬ m_isL v_o) ∧ w2_o 17 = some (aO, al 1 fO) ∧ kEx w_o w2_o kP7 ∧ kSu w2_o ad nr g_o T_o lts cs acs ams rel fnd Ns) ∨ (3 = k_o ∧ ((0 ≤ x_o ∧ x_o < (T_o : Int)) ∧ m_isL v_o ∧ cs x_o.toNat = 10) ∧ w2_o 17 = some (aO, al 1 fO) ∧ kEx w_o w2_o kP7 ∧ kSu w2_o ad nr g_o T_o lts cs acs ams rel fnd Ns))) := by
  refine kMN_of hl0 (by decide +kernel) (Nat.le_of_ble_eq_true rfl) ?_
  intro X_o hXl h_o hr htab hNc
  subst hXl
  show kG E_o X_o 5 0 0 w_o 0 [(0, .ref (ad 0)), (1, .int (iI x_o)), (2, .int (iI v_o)), (3, .ref aO)] []
  refine k_aload_n h_o 3 dL_addLetter_0 rfl rfl ?_
  refine k_iconst h_o dL_addLetter_1 ?_
  refine k_aload_n h_o 0 dL_addLetter_2 rfl rfl ?_
  refine k_iload_n h_o 1 dL_addLetter_3 rfl rfl ?_
  refine k_iload_n h_o 2 dL_addLetter_4 rfl rfl ?_
  refine k_callVX (As := [.int (iI x_o), .int (iI v_o)]) (rest := [.int (iI 0), .ref aO]) h_o mX6_addLetter kq_3_106 (c_X6_addLetter hl0 hst hx hv) 0 hst.1.1 rfl rfl rfl (Nat.le_of_ble_eq_true rfl) ⟨rfl, rfl, ⟨(Nat.le_of_ble_eq_true rfl), (Nat.le_of_ble_eq_true rfl)⟩, ⟨(Nat.le_of_ble_eq_true rfl), (Nat.le_of_ble_eq_true rfl)⟩⟩ dL_addLetter_5 ?_ (kcI fun z1_o w1_o hp => ?_)
  · intro Ex wx hx
    rcases hx with ⟨⟨rfl, e1⟩ | ⟨rfl, e1, e2⟩ | ⟨rfl, e1, e2, e3⟩, hsuX, hexX⟩
    · refine k_catch h_o htab [] ⟨0, 10, 13, 37⟩ [⟨0, 10, 17, 13⟩, ⟨0, 10, 21, 15⟩] rfl (fun z_o hz => by cases hz) rfl (by decide) kq_3_73 kq_3_116 (fun qx => ?_)
      refine k_astore (lv' := [(4, .ref qx), (0, .ref (ad 0)), (1, .int (iI x_o)), (2, .int (iI v_o)), (3, .ref aO)]) h_o dL_addLetter_13 (by decide) rfl ?_
      refine k_iconst h_o dL_addLetter_15 ?_
      exact k_iret h_o hr rfl (⟨_, rfl, Or.inr (Or.inl ⟨rfl, e1, ((hexX 17 (by show ¬ (17 ≤ 16 ∨ 100 ≤ 17); omega)).trans hO), (hexX.sub kPk_P7), hsuX⟩)⟩) (by omega) (by omega) dL_addLetter_16
    · refine k_catch h_o htab [⟨0, 10, 13, 37⟩] ⟨0, 10, 17, 13⟩ [⟨0, 10, 21, 15⟩] rfl (fun z_o hz => by rcases List.mem_cons.mp hz with rfl | hz; exact Or.inr ⟨(by decide), _, kq_3_73, hNc _ (List.mem_of_getElem? (i := 3) rfl)⟩; cases hz) rfl (by decide) kq_2_48 kq_2_66 (fun qx => ?_)
      refine k_astore (lv' := [(4, .ref qx), (0, .ref (ad 0)), (1, .int (iI x_o)), (2, .int (iI v_o)), (3, .ref aO)]) h_o dL_addLetter_17 (by decide) rfl ?_
      refine k_iconst h_o dL_addLetter_19 ?_
      exact k_iret h_o hr rfl (⟨_, rfl, Or.inr (Or.inr (Or.inl ⟨rfl, ⟨e1, e2⟩, ((hexX 17 (by show ¬ (17 ≤ 16 ∨ 100 ≤ 17); omega)).trans hO), (hexX.sub kPk_P7), hsuX⟩))⟩) (by omega) (by omega) dL_addLetter_20
    · refine k_catch h_o htab [⟨0, 10, 13, 37⟩, ⟨0, 10, 17, 13⟩] ⟨0, 10, 21, 15⟩ [] rfl (fun z_o hz => by rcases List.mem_cons.mp hz with rfl | hz; exact Or.inr ⟨(by decide), _, kq_3_73, hNc _ (List.mem_of_getElem? (i := 4) rfl)⟩; rcases List.mem_cons.mp hz with rfl | hz; exact Or.inr ⟨(by decide), _, kq_2_48, hNc _ (List.mem_of_getElem? (i := 0) rfl)⟩; cases hz) rfl (by decide) kq_2_49 kq_2_138 (fun qx => ?_)
      refine k_astore (lv' := [(4, .ref qx), (0, .ref (ad 0)), (1, .int (iI x_o)), (2, .int (iI v_o)), (3, .ref aO)]) h_o dL_addLetter_21 (by decide) rfl ?_
      refine k_iconst h_o dL_addLetter_23 ?_
      exact k_iret h_o hr rfl (⟨_, rfl, Or.inr (Or.inr (Or.inr ⟨rfl, ⟨e1, e2, e3⟩, ((hexX 17 (by show ¬ (17 ≤ 16 ∨ 100 ≤ 17); omega)).trans hO), (hexX.sub kPk_P7), hsuX⟩))⟩) (by omega) (by omega) dL_addLetter_24
  obtain ⟨e0, e1, N2, hsuX, hexX⟩ := hp
  have hO1 := ((hexX 17 (by show ¬ (17 ≤ 16 ∨ 100 ≤ 17); omega)).trans hO)
  refine k_i2lW h_o dL_addLetter_8 ?_
  refine k_last h_o 17 hO1 (by decide) (by decide) dL_addLetter_9 ?_
  refine k_goto h_o 25 dL_addLetter_10 (by decide) ?_
  refine k_iconst h_o dL_addLetter_25 ?_
  exact k_iret h_o hr rfl (⟨_, rfl, Or.inl ⟨rfl, z1_o, e0, e1, kset_eq, ((hexX.sub kPk_P7).trans (kEx.kset (Or.inl (by decide)))), N2, (hsuX.ox (kEx.kset (by show 17 ≤ 17 ∧ 17 ≤ 44; decide)))⟩⟩) (by omega) (by omega) dL_addLetter_26

set_option maxHeartbeats 4000000 in
set_option maxRecDepth 100000 in
theorem c_L_replace {E_o : kE} {l_o : Launch} (hl0 : l_o.stackTraces = false) {w_o : kW} {ad : Nat → Nat} {nr : Nat} {g_o : Nat → Nat → Int} {T_o : Nat} {lts : Nat → Nat → Int} {cs : Nat → Int} {acs : Nat → Nat → Int} {ams : Nat → Int} {rel fnd : Int} {Ns : Nat → Nat → Nat} {x_o p_o v_o : Int} {aO : Nat} {fO : Nat → Int} (hst : kSu w_o ad nr g_o T_o lts cs acs ams rel fnd Ns) (hx : -2147483648 ≤ x_o ∧ x_o < 2147483648) (hp : -2147483648 ≤ p_o ∧ p_o < 2147483648) (hv : -2147483648 ≤ v_o ∧ v_o < 2147483648) (hO : w_o 17 = some (aO, al 1 fO)) : kMN E_o l_o yL_replace (.codeWith yL_replace cL_replace 6 (some .int) [(0, 12, 15, 37), (0, 12, 19, 13)] :: kAL) { frames := 8, cells := 3, slots := 18, locals := 128 } 3 18 [.ref (ad 0), .int (iI x_o), .int (iI p_o), .int (iI v_o), .ref aO] w_o (pI (fun k_o w2_o => (0 = k_o ∧ ∃ z_o : Int, ((m_TT g_o nr (kup (lts x_o.toNat) p_o.toNat v_o) 10 0 (cs x_o.toNat - 1) : Nat) : Int) = z_o ∧ (((0 ≤ x_o ∧ x_o < (T_o : Int)) ∧ 0 ≤ p_o ∧ p_o < cs x_o.toNat) ∧ m_isL v_o) ∧ w2_o 17 = some (aO, al 1 (kup fO 0 (m_w z_o))) ∧ kEx w_o w2_o kP7 ∧ ∃ (N2 : Nat → Nat), kSu w2_o ad nr g_o T_o (kup lts x_o.toNat (kup (lts x_o.toNat) p_o.toNat v_o)) cs acs ams rel (fnd + (p_o + 1) * (cs x_o.toNat - p_o)) (kup Ns x_o.toNat N2)) ∨ (1 = k_o ∧ ¬ ((0 ≤ x_o ∧ x_o < (T_o : Int)) ∧ 0 ≤ p_o ∧ p_o < cs x_o.toNat) ∧ w2_o 17 = some (aO, al 1 fO) ∧ kEx w_o w2_o kP7 ∧ kSu w2_o ad nr g_o T_o lts cs acs ams rel fnd Ns) ∨ (2 = k_o ∧ (((0 ≤ x_o ∧ x_o < (T_o : Int)) ∧ 0 ≤ p_o ∧ p_o < cs x_o.toNat) ∧ ¬ m_isL v_o) ∧ w2_o 17 = some (aO, al 1 fO) ∧ kEx w_o w2_o kP7 ∧ kSu w2_o ad nr g_o T_o lts cs acs ams rel fnd Ns))) := by
  refine kMN_of hl0 (by decide +kernel) (Nat.le_of_ble_eq_true rfl) ?_
  intro X_o hXl h_o hr htab hNc
  subst hXl
  show kG E_o X_o 6 0 0 w_o 0 [(0, .ref (ad 0)), (1, .int (iI x_o)), (2, .int (iI p_o)), (3, .int (iI v_o)), (4, .ref aO)] []
  refine k_aload h_o 4 dL_replace_0 rfl ?_
  refine k_iconst h_o dL_replace_2 ?_
  refine k_aload_n h_o 0 dL_replace_3 rfl rfl ?_
  refine k_iload_n h_o 1 dL_replace_4 rfl rfl ?_
  refine k_iload_n h_o 2 dL_replace_5 rfl rfl ?_
  refine k_iload_n h_o 3 dL_replace_6 rfl rfl ?_
  refine k_callVX (As := [.int (iI x_o), .int (iI p_o), .int (iI v_o)]) (rest := [.int (iI 0), .ref aO]) h_o mX6_replace kq_3_132 (c_X6_replace hl0 hst hx hp hv) 0 hst.1.1 rfl rfl rfl (Nat.le_of_ble_eq_true rfl) ⟨rfl, rfl, ⟨(Nat.le_of_ble_eq_true rfl), (Nat.le_of_ble_eq_true rfl)⟩, ⟨(Nat.le_of_ble_eq_true rfl), (Nat.le_of_ble_eq_true rfl)⟩⟩ dL_replace_7 ?_ (kcI fun z1_o w1_o hp => ?_)
  · intro Ex wx hx
    rcases hx with ⟨⟨rfl, e1⟩ | ⟨rfl, e1, e2⟩, hsuX, hexX⟩
    · refine k_catch h_o htab [] ⟨0, 12, 15, 37⟩ [⟨0, 12, 19, 13⟩] rfl (fun z_o hz => by cases hz) rfl (by decide) kq_3_73 kq_3_116 (fun qx => ?_)
      refine k_astore (lv' := [(5, .ref qx), (0, .ref (ad 0)), (1, .int (iI x_o)), (2, .int (iI p_o)), (3, .int (iI v_o)), (4, .ref aO)]) h_o dL_replace_15 (by decide) rfl ?_
      refine k_iconst h_o dL_replace_17 ?_
      exact k_iret h_o hr rfl (⟨_, rfl, Or.inr (Or.inl ⟨rfl, e1, ((hexX 17 (by show ¬ (17 ≤ 16 ∨ 100 ≤ 17); omega)).trans hO), (hexX.sub kPk_P7), hsuX⟩)⟩) (by omega) (by omega) dL_replace_18
    · refine k_catch h_o htab [⟨0, 12, 15, 37⟩] ⟨0, 12, 19, 13⟩ [] rfl (fun z_o hz => by rcases List.mem_cons.mp hz with rfl | hz; exact Or.inr ⟨(by decide), _, kq_3_73, hNc _ (List.mem_of_getElem? (i := 3) rfl)⟩; cases hz) rfl (by decide) kq_2_48 kq_2_66 (fun qx => ?_)
      refine k_astore (lv' := [(5, .ref qx), (0, .ref (ad 0)), (1, .int (iI x_o)), (2, .int (iI p_o)), (3, .int (iI v_o)), (4, .ref aO)]) h_o dL_replace_19 (by decide) rfl ?_
      refine k_iconst h_o dL_replace_21 ?_
      exact k_iret h_o hr rfl (⟨_, rfl, Or.inr (Or.inr ⟨rfl, ⟨e1, e2⟩, ((hexX 17 (by show ¬ (17 ≤ 16 ∨ 100 ≤ 17); omega)).trans hO), (hexX.sub kPk_P7), hsuX⟩)⟩) (by omega) (by omega) dL_replace_22
  obtain ⟨e0, e1, N2, hsuX, hexX⟩ := hp
  have hO1 := ((hexX 17 (by show ¬ (17 ≤ 16 ∨ 100 ≤ 17); omega)).trans hO)
  refine k_i2lW h_o dL_replace_10 ?_
  refine k_last h_o 17 hO1 (by decide) (by decide) dL_replace_11 ?_
  refine k_goto h_o 23 dL_replace_12 (by decide) ?_
  refine k_iconst h_o dL_replace_23 ?_
  exact k_iret h_o hr rfl (⟨_, rfl, Or.inl ⟨rfl, z1_o, e0, e1, kset_eq, ((hexX.sub kPk_P7).trans (kEx.kset (Or.inl (by decide)))), N2, (hsuX.ox (kEx.kset (by show 17 ≤ 17 ∧ 17 ≤ 44; decide)))⟩⟩) (by omega) (by omega) dL_replace_24

set_option maxHeartbeats 4000000 in
set_option maxRecDepth 100000 in
theorem c_L_length {E_o : kE} {l_o : Launch} (hl0 : l_o.stackTraces = false) {w_o : kW} {ad : Nat → Nat} {nr : Nat} {g_o : Nat → Nat → Int} {T_o : Nat} {lts : Nat → Nat → Int} {cs : Nat → Int} {acs : Nat → Nat → Int} {ams : Nat → Int} {rel fnd : Int} {Ns : Nat → Nat → Nat} {x_o : Int} {aO : Nat} {fO : Nat → Int} (hst : kSu w_o ad nr g_o T_o lts cs acs ams rel fnd Ns) (hx : -2147483648 ≤ x_o ∧ x_o < 2147483648) (hO : w_o 17 = some (aO, al 1 fO)) : kMN E_o l_o yL_length (.codeWith yL_length cL_length 4 (some .int) [(0, 9, 12, 37)] :: kAL) { frames := 8, cells := 1, slots := 6, locals := 124 } 1 6 [.ref (ad 0), .int (iI x_o), .ref aO] w_o (pI (fun k_o w2_o => (0 = k_o ∧ ∃ z_o : Int, cs x_o.toNat = z_o ∧ (0 ≤ x_o ∧ x_o < (T_o : Int)) ∧ w2_o 17 = some (aO, al 1 (kup fO 0 (m_w z_o))) ∧ kEx w_o w2_o kP7 ∧ kSu w2_o ad nr g_o T_o lts cs acs ams rel fnd Ns) ∨ (1 = k_o ∧ ¬ (0 ≤ x_o ∧ x_o < (T_o : Int)) ∧ w2_o 17 = some (aO, al 1 fO) ∧ kEx w_o w2_o kP7 ∧ kSu w2_o ad nr g_o T_o lts cs acs ams rel fnd Ns))) := by
  refine kMN_of hl0 (by decide +kernel) (Nat.le_of_ble_eq_true rfl) ?_
  intro X_o hXl h_o hr htab hNc
  subst hXl
  show kG E_o X_o 4 0 0 w_o 0 [(0, .ref (ad 0)), (1, .int (iI x_o)), (2, .ref aO)] []
  refine k_aload_n h_o 2 dL_length_0 rfl rfl ?_
  refine k_iconst h_o dL_length_1 ?_
  refine k_aload_n h_o 0 dL_length_2 rfl rfl ?_
  refine k_iload_n h_o 1 dL_length_3 rfl rfl ?_
  refine k_callVX (As := [.int (iI x_o)]) (rest := [.int (iI 0), .ref aO]) h_o mX6_length kq_3_143 (c_X6_length hl0 hst hx) 0 hst.1.1 rfl rfl rfl (Nat.le_of_ble_eq_true rfl) ⟨rfl, rfl, ⟨(Nat.le_of_ble_eq_true rfl), (Nat.le_of_ble_eq_true rfl)⟩, ⟨(Nat.le_of_ble_eq_true rfl), (Nat.le_of_ble_eq_true rfl)⟩⟩ dL_length_4 ?_ (kcI fun z1_o w1_o hp => ?_)
  · intro Ex wx hx
    obtain ⟨⟨rfl, e1⟩, hsuX, hexX⟩ := hx
    refine k_catch h_o htab [] ⟨0, 9, 12, 37⟩ [] rfl (fun z_o hz => by cases hz) rfl (by decide) kq_3_73 kq_3_116 (fun qx => ?_)
    refine k_astore_n (lv' := [(3, .ref qx), (0, .ref (ad 0)), (1, .int (iI x_o)), (2, .ref aO)]) h_o dL_length_12 rfl (by decide) rfl ?_
    refine k_iconst h_o dL_length_13 ?_
    exact k_iret h_o hr rfl (⟨_, rfl, Or.inr ⟨rfl, e1, ((hexX 17 (by show ¬ (17 ≤ 16 ∨ 100 ≤ 17); omega)).trans hO), (hexX.sub kPk_P7), hsuX⟩⟩) (by omega) (by omega) dL_length_14
  obtain ⟨e0, e1, hsuX, hexX⟩ := hp
  have hO1 := ((hexX 17 (by show ¬ (17 ≤ 16 ∨ 100 ≤ 17); omega)).trans hO)
  refine k_i2lW h_o dL_length_7 ?_
  refine k_last h_o 17 hO1 (by decide) (by decide) dL_length_8 ?_
  refine k_goto h_o 15 dL_length_9 (by decide) ?_
  refine k_iconst h_o dL_length_15 ?_
  exact k_iret h_o hr rfl (⟨_, rfl, Or.inl ⟨rfl, z1_o, e0, e1, kset_eq, ((hexX.sub kPk_P7).trans (kEx.kset (Or.inl (by decide)))), (hsuX.ox (kEx.kset (by show 17 ≤ 17 ∧ 17 ≤ 44; decide)))⟩⟩) (by omega) (by omega) dL_length_16

set_option maxHeartbeats 4000000 in
set_option maxRecDepth 100000 in
theorem c_L_letterAt {E_o : kE} {l_o : Launch} (hl0 : l_o.stackTraces = false) {w_o : kW} {ad : Nat → Nat} {nr : Nat} {g_o : Nat → Nat → Int} {T_o : Nat} {lts : Nat → Nat → Int} {cs : Nat → Int} {acs : Nat → Nat → Int} {ams : Nat → Int} {rel fnd : Int} {Ns : Nat → Nat → Nat} {x_o p_o : Int} {aO : Nat} {fO : Nat → Int} (hst : kSu w_o ad nr g_o T_o lts cs acs ams rel fnd Ns) (hx : -2147483648 ≤ x_o ∧ x_o < 2147483648) (hp : -2147483648 ≤ p_o ∧ p_o < 2147483648) (hO : w_o 17 = some (aO, al 1 fO)) : kMN E_o l_o yL_letterAt (.codeWith yL_letterAt cL_letterAt 5 (some .int) [(0, 10, 13, 37)] :: kAL) { frames := 8, cells := 2, slots := 12, locals := 126 } 2 12 [.ref (ad 0), .int (iI x_o), .int (iI p_o), .ref aO] w_o (pI (fun k_o w2_o => (0 = k_o ∧ ∃ z_o : Int, lts x_o.toNat p_o.toNat = z_o ∧ ((0 ≤ x_o ∧ x_o < (T_o : Int)) ∧ 0 ≤ p_o ∧ p_o < cs x_o.toNat) ∧ w2_o 17 = some (aO, al 1 (kup fO 0 (m_w z_o))) ∧ kEx w_o w2_o kP7 ∧ kSu w2_o ad nr g_o T_o lts cs acs ams rel fnd Ns) ∨ (1 = k_o ∧ ¬ ((0 ≤ x_o ∧ x_o < (T_o : Int)) ∧ 0 ≤ p_o ∧ p_o < cs x_o.toNat) ∧ w2_o 17 = some (aO, al 1 fO) ∧ kEx w_o w2_o kP7 ∧ kSu w2_o ad nr g_o T_o lts cs acs ams rel fnd Ns))) := by
  refine kMN_of hl0 (by decide +kernel) (Nat.le_of_ble_eq_true rfl) ?_
  intro X_o hXl h_o hr htab hNc
  subst hXl
  show kG E_o X_o 5 0 0 w_o 0 [(0, .ref (ad 0)), (1, .int (iI x_o)), (2, .int (iI p_o)), (3, .ref aO)] []
  refine k_aload_n h_o 3 dL_letterAt_0 rfl rfl ?_
  refine k_iconst h_o dL_letterAt_1 ?_
  refine k_aload_n h_o 0 dL_letterAt_2 rfl rfl ?_
  refine k_iload_n h_o 1 dL_letterAt_3 rfl rfl ?_
  refine k_iload_n h_o 2 dL_letterAt_4 rfl rfl ?_
  refine k_callVX (As := [.int (iI x_o), .int (iI p_o)]) (rest := [.int (iI 0), .ref aO]) h_o mX6_letterAt kq_3_150 (c_X6_letterAt hl0 hst hx hp) 0 hst.1.1 rfl rfl rfl (Nat.le_of_ble_eq_true rfl) ⟨rfl, rfl, ⟨(Nat.le_of_ble_eq_true rfl), (Nat.le_of_ble_eq_true rfl)⟩, ⟨(Nat.le_of_ble_eq_true rfl), (Nat.le_of_ble_eq_true rfl)⟩⟩ dL_letterAt_5 ?_ (kcI fun z1_o w1_o hp => ?_)
  · intro Ex wx hx
    obtain ⟨⟨rfl, e1⟩, hsuX, hexX⟩ := hx
    refine k_catch h_o htab [] ⟨0, 10, 13, 37⟩ [] rfl (fun z_o hz => by cases hz) rfl (by decide) kq_3_73 kq_3_116 (fun qx => ?_)
    refine k_astore (lv' := [(4, .ref qx), (0, .ref (ad 0)), (1, .int (iI x_o)), (2, .int (iI p_o)), (3, .ref aO)]) h_o dL_letterAt_13 (by decide) rfl ?_
    refine k_iconst h_o dL_letterAt_15 ?_
    exact k_iret h_o hr rfl (⟨_, rfl, Or.inr ⟨rfl, e1, ((hexX 17 (by show ¬ (17 ≤ 16 ∨ 100 ≤ 17); omega)).trans hO), (hexX.sub kPk_P7), hsuX⟩⟩) (by omega) (by omega) dL_letterAt_16
  obtain ⟨e0, e1, hsuX, hexX⟩ := hp
  have hO1 := ((hexX 17 (by show ¬ (17 ≤ 16 ∨ 100 ≤ 17); omega)).trans hO)
  refine k_i2lW h_o dL_letterAt_8 ?_
  refine k_last h_o 17 hO1 (by decide) (by decide) dL_letterAt_9 ?_
  refine k_goto h_o 17 dL_letterAt_10 (by decide) ?_
  refine k_iconst h_o dL_letterAt_17 ?_
  exact k_iret h_o hr rfl (⟨_, rfl, Or.inl ⟨rfl, z1_o, e0, e1, kset_eq, ((hexX.sub kPk_P7).trans (kEx.kset (Or.inl (by decide)))), (hsuX.ox (kEx.kset (by show 17 ≤ 17 ∧ 17 ≤ 44; decide)))⟩⟩) (by omega) (by omega) dL_letterAt_18

set_option maxHeartbeats 4000000 in
set_option maxRecDepth 100000 in
theorem c_L_trees {E_o : kE} {l_o : Launch} (hl0 : l_o.stackTraces = false) {w_o : kW} {ad : Nat → Nat} {nr : Nat} {g_o : Nat → Nat → Int} {T_o : Nat} {lts : Nat → Nat → Int} {cs : Nat → Int} {acs : Nat → Nat → Int} {ams : Nat → Int} {rel fnd : Int} {Ns : Nat → Nat → Nat} {x_o : Int} {aO : Nat} {fO : Nat → Int} (hst : kSu w_o ad nr g_o T_o lts cs acs ams rel fnd Ns) (hx : -2147483648 ≤ x_o ∧ x_o < 2147483648) (hO : w_o 17 = some (aO, al 1 fO)) : kMN E_o l_o yL_trees (.codeWith yL_trees cL_trees 4 (some .int) [(0, 9, 12, 37)] :: kAL) { frames := 8, cells := 1, slots := 6, locals := 124 } 1 6 [.ref (ad 0), .int (iI x_o), .ref aO] w_o (pI (fun k_o w2_o => (0 = k_o ∧ ∃ z_o : Int, ((m_TT g_o nr (lts x_o.toNat) 10 0 (cs x_o.toNat - 1) : Nat) : Int) = z_o ∧ (0 ≤ x_o ∧ x_o < (T_o : Int)) ∧ w2_o 17 = some (aO, al 1 (kup fO 0 (m_w z_o))) ∧ kEx w_o w2_o kP7 ∧ kSu w2_o ad nr g_o T_o lts cs acs ams rel fnd Ns) ∨ (1 = k_o ∧ ¬ (0 ≤ x_o ∧ x_o < (T_o : Int)) ∧ w2_o 17 = some (aO, al 1 fO) ∧ kEx w_o w2_o kP7 ∧ kSu w2_o ad nr g_o T_o lts cs acs ams rel fnd Ns))) := by
  refine kMN_of hl0 (by decide +kernel) (Nat.le_of_ble_eq_true rfl) ?_
  intro X_o hXl h_o hr htab hNc
  subst hXl
  show kG E_o X_o 4 0 0 w_o 0 [(0, .ref (ad 0)), (1, .int (iI x_o)), (2, .ref aO)] []
  refine k_aload_n h_o 2 dL_trees_0 rfl rfl ?_
  refine k_iconst h_o dL_trees_1 ?_
  refine k_aload_n h_o 0 dL_trees_2 rfl rfl ?_
  refine k_iload_n h_o 1 dL_trees_3 rfl rfl ?_
  refine k_callVX (As := [.int (iI x_o)]) (rest := [.int (iI 0), .ref aO]) h_o mX6_trees kq_3_158 (c_X6_trees hl0 hst hx) 0 hst.1.1 rfl rfl rfl (Nat.le_of_ble_eq_true rfl) ⟨rfl, rfl, ⟨(Nat.le_of_ble_eq_true rfl), (Nat.le_of_ble_eq_true rfl)⟩, ⟨(Nat.le_of_ble_eq_true rfl), (Nat.le_of_ble_eq_true rfl)⟩⟩ dL_trees_4 ?_ (kcI fun z1_o w1_o hp => ?_)
  · intro Ex wx hx
    obtain ⟨⟨rfl, e1⟩, hsuX, hexX⟩ := hx
    refine k_catch h_o htab [] ⟨0, 9, 12, 37⟩ [] rfl (fun z_o hz => by cases hz) rfl (by decide) kq_3_73 kq_3_116 (fun qx => ?_)
    refine k_astore_n (lv' := [(3, .ref qx), (0, .ref (ad 0)), (1, .int (iI x_o)), (2, .ref aO)]) h_o dL_trees_12 rfl (by decide) rfl ?_
    refine k_iconst h_o dL_trees_13 ?_
    exact k_iret h_o hr rfl (⟨_, rfl, Or.inr ⟨rfl, e1, ((hexX 17 (by show ¬ (17 ≤ 16 ∨ 100 ≤ 17); omega)).trans hO), (hexX.sub kPk_P7), hsuX⟩⟩) (by omega) (by omega) dL_trees_14
  obtain ⟨e0, e1, hsuX, hexX⟩ := hp
  have hO1 := ((hexX 17 (by show ¬ (17 ≤ 16 ∨ 100 ≤ 17); omega)).trans hO)
  refine k_i2lW h_o dL_trees_7 ?_
  refine k_last h_o 17 hO1 (by decide) (by decide) dL_trees_8 ?_
  refine k_goto h_o 15 dL_trees_9 (by decide) ?_
  refine k_iconst h_o dL_trees_15 ?_
  exact k_iret h_o hr rfl (⟨_, rfl, Or.inl ⟨rfl, z1_o, e0, e1, kset_eq, ((hexX.sub kPk_P7).trans (kEx.kset (Or.inl (by decide)))), (hsuX.ox (kEx.kset (by show 17 ≤ 17 ∧ 17 ≤ 44; decide)))⟩⟩) (by omega) (by omega) dL_trees_16

set_option maxHeartbeats 4000000 in
set_option maxRecDepth 100000 in
theorem c_L_treesByTrying {E_o : kE} {l_o : Launch} (hl0 : l_o.stackTraces = false) {w_o : kW} {ad : Nat → Nat} {nr : Nat} {g_o : Nat → Nat → Int} {T_o : Nat} {lts : Nat → Nat → Int} {cs : Nat → Int} {acs : Nat → Nat → Int} {ams : Nat → Int} {rel fnd : Int} {Ns : Nat → Nat → Nat} {x_o : Int} {aO : Nat} {fO : Nat → Int} (hst : kSu w_o ad nr g_o T_o lts cs acs ams rel fnd Ns) (hx : -2147483648 ≤ x_o ∧ x_o < 2147483648) (hO : w_o 17 = some (aO, al 1 fO)) : kMN E_o l_o yL_treesByTrying (.codeWith yL_treesByTrying cL_treesByTrying 4 (some .int) [(0, 9, 12, 37), (0, 9, 15, 54)] :: kAL) { frames := 105, cells := 2, slots := 12, locals := 2984 } 2 12 [.ref (ad 0), .int (iI x_o), .ref aO] w_o (pI (fun k_o w2_o => (0 = k_o ∧ ∃ z_o : Int, ((m_TT g_o nr (lts x_o.toNat) 10 0 (cs x_o.toNat - 1) : Nat) : Int) = z_o ∧ (0 ≤ x_o ∧ x_o < (T_o : Int)) ∧ cs x_o.toNat ≤ 5 ∧ w2_o 17 = some (aO, al 1 (kup fO 0 (m_w z_o))) ∧ kEx w_o w2_o kP7 ∧ kSu w2_o ad nr g_o T_o lts cs acs ams rel fnd Ns) ∨ (1 = k_o ∧ ¬ (0 ≤ x_o ∧ x_o < (T_o : Int)) ∧ w2_o 17 = some (aO, al 1 fO) ∧ kEx w_o w2_o kP7 ∧ kSu w2_o ad nr g_o T_o lts cs acs ams rel fnd Ns) ∨ (2 = k_o ∧ ((0 ≤ x_o ∧ x_o < (T_o : Int)) ∧ 5 < cs x_o.toNat) ∧ w2_o 17 = some (aO, al 1 fO) ∧ kEx w_o w2_o kP7 ∧ kSu w2_o ad nr g_o T_o lts cs acs ams rel fnd Ns))) := by
  refine kMN_of hl0 (by decide +kernel) (Nat.le_of_ble_eq_true rfl) ?_
  intro X_o hXl h_o hr htab hNc
  subst hXl
  show kG E_o X_o 4 0 0 w_o 0 [(0, .ref (ad 0)), (1, .int (iI x_o)), (2, .ref aO)] []
  refine k_aload_n h_o 2 dL_treesByTrying_0 rfl rfl ?_
  refine k_iconst h_o dL_treesByTrying_1 ?_
  refine k_aload_n h_o 0 dL_treesByTrying_2 rfl rfl ?_
  refine k_iload_n h_o 1 dL_treesByTrying_3 rfl rfl ?_
  refine k_callVX (As := [.int (iI x_o)]) (rest := [.int (iI 0), .ref aO]) h_o mX6_treesByTrying kq_3_166 (c_X6_treesByTrying hl0 hst hx) 0 hst.1.1 rfl rfl rfl (Nat.le_of_ble_eq_true rfl) ⟨rfl, rfl, ⟨(Nat.le_of_ble_eq_true rfl), (Nat.le_of_ble_eq_true rfl)⟩, ⟨(Nat.le_of_ble_eq_true rfl), (Nat.le_of_ble_eq_true rfl)⟩⟩ dL_treesByTrying_4 ?_ (kcI fun z1_o w1_o hp => ?_)
  · intro Ex wx hx
    rcases hx with ⟨⟨rfl, e1⟩ | ⟨rfl, e1, e2⟩, hsuX, hexX⟩
    · refine k_catch h_o htab [] ⟨0, 9, 12, 37⟩ [⟨0, 9, 15, 54⟩] rfl (fun z_o hz => by cases hz) rfl (by decide) kq_3_73 kq_3_116 (fun qx => ?_)
      refine k_astore_n (lv' := [(3, .ref qx), (0, .ref (ad 0)), (1, .int (iI x_o)), (2, .ref aO)]) h_o dL_treesByTrying_12 rfl (by decide) rfl ?_
      refine k_iconst h_o dL_treesByTrying_13 ?_
      exact k_iret h_o hr rfl (⟨_, rfl, Or.inr (Or.inl ⟨rfl, e1, ((hexX 17 (by show ¬ (17 ≤ 16 ∨ 100 ≤ 17); omega)).trans hO), (hexX.sub kPk_P7), hsuX⟩)⟩) (by omega) (by omega) dL_treesByTrying_14
    · refine k_catch h_o htab [⟨0, 9, 12, 37⟩] ⟨0, 9, 15, 54⟩ [] rfl (fun z_o hz => by rcases List.mem_cons.mp hz with rfl | hz; exact Or.inr ⟨(by decide), _, kq_3_73, hNc _ (List.mem_of_getElem? (i := 5) rfl)⟩; cases hz) rfl (by decide) kq_3_165 kq_3_172 (fun qx => ?_)
      refine k_astore_n (lv' := [(3, .ref qx), (0, .ref (ad 0)), (1, .int (iI x_o)), (2, .ref aO)]) h_o dL_treesByTrying_15 rfl (by decide) rfl ?_
      refine k_iconst h_o dL_treesByTrying_16 ?_
      exact k_iret h_o hr rfl (⟨_, rfl, Or.inr (Or.inr ⟨rfl, ⟨e1, e2⟩, ((hexX 17 (by show ¬ (17 ≤ 16 ∨ 100 ≤ 17); omega)).trans hO), (hexX.sub kPk_P7), hsuX⟩)⟩) (by omega) (by omega) dL_treesByTrying_17
  obtain ⟨e0, e1, e2, hsuX, hexX⟩ := hp
  have hO1 := ((hexX 17 (by show ¬ (17 ≤ 16 ∨ 100 ≤ 17); omega)).trans hO)
  refine k_i2lW h_o dL_treesByTrying_7 ?_
  refine k_last h_o 17 hO1 (by decide) (by decide) dL_treesByTrying_8 ?_
  refine k_goto h_o 18 dL_treesByTrying_9 (by decide) ?_
  refine k_iconst h_o dL_treesByTrying_18 ?_
  exact k_iret h_o hr rfl (⟨_, rfl, Or.inl ⟨rfl, z1_o, e0, e1, e2, kset_eq, ((hexX.sub kPk_P7).trans (kEx.kset (Or.inl (by decide)))), (hsuX.ox (kEx.kset (by show 17 ≤ 17 ∧ 17 ≤ 44; decide)))⟩⟩) (by omega) (by omega) dL_treesByTrying_19

set_option maxHeartbeats 4000000 in
set_option maxRecDepth 100000 in
theorem c_L_treesOver {E_o : kE} {l_o : Launch} (hl0 : l_o.stackTraces = false) {w_o : kW} {ad : Nat → Nat} {nr : Nat} {g_o : Nat → Nat → Int} {T_o : Nat} {lts : Nat → Nat → Int} {cs : Nat → Int} {acs : Nat → Nat → Int} {ams : Nat → Int} {rel fnd : Int} {Ns : Nat → Nat → Nat} {x_o s_o i_o j_o : Int} {aO : Nat} {fO : Nat → Int} (hst : kSu w_o ad nr g_o T_o lts cs acs ams rel fnd Ns) (hx : -2147483648 ≤ x_o ∧ x_o < 2147483648) (hs : -2147483648 ≤ s_o ∧ s_o < 2147483648) (hi_o : -2147483648 ≤ i_o ∧ i_o < 2147483648) (hj : -2147483648 ≤ j_o ∧ j_o < 2147483648) (hO : w_o 17 = some (aO, al 1 fO)) : kMN E_o l_o yL_treesOver (.codeWith yL_treesOver cL_treesOver 7 (some .int) [(0, 14, 17, 37), (0, 14, 21, 13)] :: kAL) { frames := 8, cells := 4, slots := 24, locals := 128 } 4 24 [.ref (ad 0), .int (iI x_o), .int (iI s_o), .int (iI i_o), .int (iI j_o), .ref aO] w_o (pI (fun k_o w2_o => (0 = k_o ∧ ∃ z_o : Int, ((m_TT g_o nr (lts x_o.toNat) s_o i_o j_o : Nat) : Int) = z_o ∧ (((0 ≤ x_o ∧ x_o < (T_o : Int)) ∧ 0 ≤ i_o ∧ i_o < cs x_o.toNat) ∧ ((0 ≤ x_o ∧ x_o < (T_o : Int)) ∧ 0 ≤ j_o ∧ j_o < cs x_o.toNat)) ∧ m_isN s_o ∧ i_o ≤ j_o ∧ w2_o 17 = some (aO, al 1 (kup fO 0 (m_w z_o))) ∧ kEx w_o w2_o kP7 ∧ kSu w2_o ad nr g_o T_o lts cs acs ams rel fnd Ns) ∨ (1 = k_o ∧ ¬ (((0 ≤ x_o ∧ x_o < (T_o : Int)) ∧ 0 ≤ i_o ∧ i_o < cs x_o.toNat) ∧ ((0 ≤ x_o ∧ x_o < (T_o : Int)) ∧ 0 ≤ j_o ∧ j_o < cs x_o.toNat)) ∧ w2_o 17 = some (aO, al 1 fO) ∧ kEx w_o w2_o kP7 ∧ kSu w2_o ad nr g_o T_o lts cs acs ams rel fnd Ns) ∨ (2 = k_o ∧ ((((0 ≤ x_o ∧ x_o < (T_o : Int)) ∧ 0 ≤ i_o ∧ i_o < cs x_o.toNat) ∧ ((0 ≤ x_o ∧ x_o < (T_o : Int)) ∧ 0 ≤ j_o ∧ j_o < cs x_o.toNat)) ∧ ¬ (m_isN s_o ∧ i_o ≤ j_o)) ∧ w2_o 17 = some (aO, al 1 fO) ∧ kEx w_o w2_o kP7 ∧ kSu w2_o ad nr g_o T_o lts cs acs ams rel fnd Ns))) := by
  refine kMN_of hl0 (by decide +kernel) (Nat.le_of_ble_eq_true rfl) ?_
  intro X_o hXl h_o hr htab hNc
  subst hXl
  show kG E_o X_o 7 0 0 w_o 0 [(0, .ref (ad 0)), (1, .int (iI x_o)), (2, .int (iI s_o)), (3, .int (iI i_o)), (4, .int (iI j_o)), (5, .ref aO)] []
  refine k_aload h_o 5 dL_treesOver_0 rfl ?_
  refine k_iconst h_o dL_treesOver_2 ?_
  refine k_aload_n h_o 0 dL_treesOver_3 rfl rfl ?_
  refine k_iload_n h_o 1 dL_treesOver_4 rfl rfl ?_
  refine k_iload_n h_o 2 dL_treesOver_5 rfl rfl ?_
  refine k_iload_n h_o 3 dL_treesOver_6 rfl rfl ?_
  refine k_iload h_o 4 dL_treesOver_7 rfl ?_
  refine k_callVX (As := [.int (iI x_o), .int (iI s_o), .int (iI i_o), .int (iI j_o)]) (rest := [.int (iI 0), .ref aO]) h_o mX6_treesOver kq_3_188 (c_X6_treesOver hl0 hst hx hs hi_o hj) 0 hst.1.1 rfl rfl rfl (Nat.le_of_ble_eq_true rfl) ⟨rfl, rfl, ⟨(Nat.le_of_ble_eq_true rfl), (Nat.le_of_ble_eq_true rfl)⟩, ⟨(Nat.le_of_ble_eq_true rfl), (Nat.le_of_ble_eq_true rfl)⟩⟩ dL_treesOver_9 ?_ (kcI fun z1_o w1_o hp => ?_)
  · intro Ex wx hx
    rcases hx with ⟨⟨rfl, e1⟩ | ⟨rfl, e1, e2⟩, hsuX, hexX⟩
    · refine k_catch h_o htab [] ⟨0, 14, 17, 37⟩ [⟨0, 14, 21, 13⟩] rfl (fun z_o hz => by cases hz) rfl (by decide) kq_3_73 kq_3_116 (fun qx => ?_)
      refine k_astore (lv' := [(6, .ref qx), (0, .ref (ad 0)), (1, .int (iI x_o)), (2, .int (iI s_o)), (3, .int (iI i_o)), (4, .int (iI j_o)), (5, .ref aO)]) h_o dL_treesOver_17 (by decide) rfl ?_
      refine k_iconst h_o dL_treesOver_19 ?_
      exact k_iret h_o hr rfl (⟨_, rfl, Or.inr (Or.inl ⟨rfl, e1, ((hexX 17 (by show ¬ (17 ≤ 16 ∨ 100 ≤ 17); omega)).trans hO), (hexX.sub kPk_P7), hsuX⟩)⟩) (by omega) (by omega) dL_treesOver_20
    · refine k_catch h_o htab [⟨0, 14, 17, 37⟩] ⟨0, 14, 21, 13⟩ [] rfl (fun z_o hz => by rcases List.mem_cons.mp hz with rfl | hz; exact Or.inr ⟨(by decide), _, kq_3_73, hNc _ (List.mem_of_getElem? (i := 3) rfl)⟩; cases hz) rfl (by decide) kq_2_48 kq_2_66 (fun qx => ?_)
      refine k_astore (lv' := [(6, .ref qx), (0, .ref (ad 0)), (1, .int (iI x_o)), (2, .int (iI s_o)), (3, .int (iI i_o)), (4, .int (iI j_o)), (5, .ref aO)]) h_o dL_treesOver_21 (by decide) rfl ?_
      refine k_iconst h_o dL_treesOver_23 ?_
      exact k_iret h_o hr rfl (⟨_, rfl, Or.inr (Or.inr ⟨rfl, ⟨e1, e2⟩, ((hexX 17 (by show ¬ (17 ≤ 16 ∨ 100 ≤ 17); omega)).trans hO), (hexX.sub kPk_P7), hsuX⟩)⟩) (by omega) (by omega) dL_treesOver_24
  obtain ⟨e0, e1, e2, e3, e4, hsuX, hexX⟩ := hp
  have hO1 := ((hexX 17 (by show ¬ (17 ≤ 16 ∨ 100 ≤ 17); omega)).trans hO)
  refine k_i2lW h_o dL_treesOver_12 ?_
  refine k_last h_o 17 hO1 (by decide) (by decide) dL_treesOver_13 ?_
  refine k_goto h_o 25 dL_treesOver_14 (by decide) ?_
  refine k_iconst h_o dL_treesOver_25 ?_
  exact k_iret h_o hr rfl (⟨_, rfl, Or.inl ⟨rfl, z1_o, e0, ⟨e1, e2⟩, e3, e4, kset_eq, ((hexX.sub kPk_P7).trans (kEx.kset (Or.inl (by decide)))), (hsuX.ox (kEx.kset (by show 17 ≤ 17 ∧ 17 ≤ 44; decide)))⟩⟩) (by omega) (by omega) dL_treesOver_26

set_option maxHeartbeats 4000000 in
set_option maxRecDepth 100000 in
theorem c_L_size {E_o : kE} {l_o : Launch} (hl0 : l_o.stackTraces = false) {w_o : kW} {ad : Nat → Nat} {nr : Nat} {g_o : Nat → Nat → Int} {T_o : Nat} {lts : Nat → Nat → Int} {cs : Nat → Int} {acs : Nat → Nat → Int} {ams : Nat → Int} {rel fnd : Int} {Ns : Nat → Nat → Nat} {x_o : Int} {aO : Nat} {fO : Nat → Int} (hst : kSu w_o ad nr g_o T_o lts cs acs ams rel fnd Ns) (hx : -2147483648 ≤ x_o ∧ x_o < 2147483648) (hO : w_o 17 = some (aO, al 1 fO)) : kMN E_o l_o yL_size (.codeWith yL_size cL_size 4 (some .int) [(0, 9, 12, 37)] :: kAL) { frames := 9, cells := 1, slots := 6, locals := 147 } 1 6 [.ref (ad 0), .int (iI x_o), .ref aO] w_o (pI (fun k_o w2_o => (0 = k_o ∧ ∃ z_o : Int, (m_lay g_o nr (lts x_o.toNat) (cs x_o.toNat) kO0).1 = z_o ∧ (0 ≤ x_o ∧ x_o < (T_o : Int)) ∧ w2_o 17 = some (aO, al 1 (kup fO 0 (m_w z_o))) ∧ kEx w_o w2_o kP7 ∧ kSu w2_o ad nr g_o T_o lts cs acs ams rel fnd Ns) ∨ (1 = k_o ∧ ¬ (0 ≤ x_o ∧ x_o < (T_o : Int)) ∧ w2_o 17 = some (aO, al 1 fO) ∧ kEx w_o w2_o kP7 ∧ kSu w2_o ad nr g_o T_o lts cs acs ams rel fnd Ns))) := by
  refine kMN_of hl0 (by decide +kernel) (Nat.le_of_ble_eq_true rfl) ?_
  intro X_o hXl h_o hr htab hNc
  subst hXl
  show kG E_o X_o 4 0 0 w_o 0 [(0, .ref (ad 0)), (1, .int (iI x_o)), (2, .ref aO)] []
  refine k_aload_n h_o 2 dL_size_0 rfl rfl ?_
  refine k_iconst h_o dL_size_1 ?_
  refine k_aload_n h_o 0 dL_size_2 rfl rfl ?_
  refine k_iload_n h_o 1 dL_size_3 rfl rfl ?_
  refine k_callVX (As := [.int (iI x_o)]) (rest := [.int (iI 0), .ref aO]) h_o mX6_size kq_3_196 (c_X6_size hl0 hst hx) 0 hst.1.1 rfl rfl rfl (Nat.le_of_ble_eq_true rfl) ⟨rfl, rfl, ⟨(Nat.le_of_ble_eq_true rfl), (Nat.le_of_ble_eq_true rfl)⟩, ⟨(Nat.le_of_ble_eq_true rfl), (Nat.le_of_ble_eq_true rfl)⟩⟩ dL_size_4 ?_ (kcI fun z1_o w1_o hp => ?_)
  · intro Ex wx hx
    obtain ⟨⟨rfl, e1⟩, hsuX, hexX⟩ := hx
    refine k_catch h_o htab [] ⟨0, 9, 12, 37⟩ [] rfl (fun z_o hz => by cases hz) rfl (by decide) kq_3_73 kq_3_116 (fun qx => ?_)
    refine k_astore_n (lv' := [(3, .ref qx), (0, .ref (ad 0)), (1, .int (iI x_o)), (2, .ref aO)]) h_o dL_size_12 rfl (by decide) rfl ?_
    refine k_iconst h_o dL_size_13 ?_
    exact k_iret h_o hr rfl (⟨_, rfl, Or.inr ⟨rfl, e1, ((hexX 17 (by show ¬ (17 ≤ 16 ∨ 100 ≤ 17); omega)).trans hO), (hexX.sub kPk_P7), hsuX⟩⟩) (by omega) (by omega) dL_size_14
  obtain ⟨⟨Oq, hOq, e0⟩, e1, hsuX, hexX⟩ := hp
  have hO1 := ((hexX 17 (by show ¬ (17 ≤ 16 ∨ 100 ≤ 17); omega)).trans hO)
  obtain ⟨hwfX, hcX⟩ := hst.c10 e1
  have hoe := m_oz (g := g_o) (nr := nr) (lt := lts x_o.toNat) (O := Oq) hwfX hcX
  refine k_i2lW h_o dL_size_7 ?_
  refine k_last h_o 17 hO1 (by decide) (by decide) dL_size_8 ?_
  refine k_goto h_o 15 dL_size_9 (by decide) ?_
  refine k_iconst h_o dL_size_15 ?_
  exact k_iret h_o hr rfl (⟨_, rfl, Or.inl ⟨rfl, z1_o, hoe.1.1.symm.trans e0, e1, kset_eq, ((hexX.sub kPk_P7).trans (kEx.kset (Or.inl (by decide)))), (hsuX.ox (kEx.kset (by show 17 ≤ 17 ∧ 17 ≤ 44; decide)))⟩⟩) (by omega) (by omega) dL_size_16

set_option maxHeartbeats 4000000 in
set_option maxRecDepth 100000 in
theorem c_L_depth {E_o : kE} {l_o : Launch} (hl0 : l_o.stackTraces = false) {w_o : kW} {ad : Nat → Nat} {nr : Nat} {g_o : Nat → Nat → Int} {T_o : Nat} {lts : Nat → Nat → Int} {cs : Nat → Int} {acs : Nat → Nat → Int} {ams : Nat → Int} {rel fnd : Int} {Ns : Nat → Nat → Nat} {x_o : Int} {aO : Nat} {fO : Nat → Int} (hst : kSu w_o ad nr g_o T_o lts cs acs ams rel fnd Ns) (hx : -2147483648 ≤ x_o ∧ x_o < 2147483648) (hO : w_o 17 = some (aO, al 1 fO)) : kMN E_o l_o yL_depth (.codeWith yL_depth cL_depth 4 (some .int) [(0, 9, 12, 37)] :: kAL) { frames := 9, cells := 1, slots := 6, locals := 147 } 1 6 [.ref (ad 0), .int (iI x_o), .ref aO] w_o (pI (fun k_o w2_o => (0 = k_o ∧ ∃ z_o : Int, (m_lay g_o nr (lts x_o.toNat) (cs x_o.toNat) kO0).2.2.2.2.1 = z_o ∧ (0 ≤ x_o ∧ x_o < (T_o : Int)) ∧ w2_o 17 = some (aO, al 1 (kup fO 0 (m_w z_o))) ∧ kEx w_o w2_o kP7 ∧ kSu w2_o ad nr g_o T_o lts cs acs ams rel fnd Ns) ∨ (1 = k_o ∧ ¬ (0 ≤ x_o ∧ x_o < (T_o : Int)) ∧ w2_o 17 = some (aO, al 1 fO) ∧ kEx w_o w2_o kP7 ∧ kSu w2_o ad nr g_o T_o lts cs acs ams rel fnd Ns))) := by
  refine kMN_of hl0 (by decide +kernel) (Nat.le_of_ble_eq_true rfl) ?_
  intro X_o hXl h_o hr htab hNc
  subst hXl
  show kG E_o X_o 4 0 0 w_o 0 [(0, .ref (ad 0)), (1, .int (iI x_o)), (2, .ref aO)] []
  refine k_aload_n h_o 2 dL_depth_0 rfl rfl ?_
  refine k_iconst h_o dL_depth_1 ?_
  refine k_aload_n h_o 0 dL_depth_2 rfl rfl ?_
  refine k_iload_n h_o 1 dL_depth_3 rfl rfl ?_
  refine k_callVX (As := [.int (iI x_o)]) (rest := [.int (iI 0), .ref aO]) h_o mX6_depth kq_3_218 (c_X6_depth hl0 hst hx) 0 hst.1.1 rfl rfl rfl (Nat.le_of_ble_eq_true rfl) ⟨rfl, rfl, ⟨(Nat.le_of_ble_eq_true rfl), (Nat.le_of_ble_eq_true rfl)⟩, ⟨(Nat.le_of_ble_eq_true rfl), (Nat.le_of_ble_eq_true rfl)⟩⟩ dL_depth_4 ?_ (kcI fun z1_o w1_o hp => ?_)
  · intro Ex wx hx
    obtain ⟨⟨rfl, e1⟩, hsuX, hexX⟩ := hx
    refine k_catch h_o htab [] ⟨0, 9, 12, 37⟩ [] rfl (fun z_o hz => by cases hz) rfl (by decide) kq_3_73 kq_3_116 (fun qx => ?_)
    refine k_astore_n (lv' := [(3, .ref qx), (0, .ref (ad 0)), (1, .int (iI x_o)), (2, .ref aO)]) h_o dL_depth_12 rfl (by decide) rfl ?_
    refine k_iconst h_o dL_depth_13 ?_
    exact k_iret h_o hr rfl (⟨_, rfl, Or.inr ⟨rfl, e1, ((hexX 17 (by show ¬ (17 ≤ 16 ∨ 100 ≤ 17); omega)).trans hO), (hexX.sub kPk_P7), hsuX⟩⟩) (by omega) (by omega) dL_depth_14
  obtain ⟨⟨Oq, hOq, e0⟩, e1, hsuX, hexX⟩ := hp
  have hO1 := ((hexX 17 (by show ¬ (17 ≤ 16 ∨ 100 ≤ 17); omega)).trans hO)
  obtain ⟨hwfX, hcX⟩ := hst.c10 e1
  have hoe := m_oz (g := g_o) (nr := nr) (lt := lts x_o.toNat) (O := Oq) hwfX hcX
  refine k_i2lW h_o dL_depth_7 ?_
  refine k_last h_o 17 hO1 (by decide) (by decide) dL_depth_8 ?_
  refine k_goto h_o 15 dL_depth_9 (by decide) ?_
  refine k_iconst h_o dL_depth_15 ?_
  exact k_iret h_o hr rfl (⟨_, rfl, Or.inl ⟨rfl, z1_o, (congrArg (fun q_o => q_o.1) hoe.2.2.2.2).symm.trans e0, e1, kset_eq, ((hexX.sub kPk_P7).trans (kEx.kset (Or.inl (by decide)))), (hsuX.ox (kEx.kset (by show 17 ≤ 17 ∧ 17 ≤ 44; decide)))⟩⟩) (by omega) (by omega) dL_depth_16

set_option maxHeartbeats 4000000 in
set_option maxRecDepth 100000 in
theorem c_L_formatted {E_o : kE} {l_o : Launch} (hl0 : l_o.stackTraces = false) {w_o : kW} {ad : Nat → Nat} {nr : Nat} {g_o : Nat → Nat → Int} {T_o : Nat} {lts : Nat → Nat → Int} {cs : Nat → Int} {acs : Nat → Nat → Int} {ams : Nat → Int} {rel fnd : Int} {Ns : Nat → Nat → Nat} {x_o : Int} {aO : Nat} {fO : Nat → Int} (hst : kSu w_o ad nr g_o T_o lts cs acs ams rel fnd Ns) (hx : -2147483648 ≤ x_o ∧ x_o < 2147483648) (hO : w_o 17 = some (aO, al 1 fO)) : kMN E_o l_o yL_formatted (.codeWith yL_formatted cL_formatted 4 (some .int) [(0, 9, 12, 37)] :: kAL) { frames := 9, cells := 1, slots := 6, locals := 147 } 1 6 [.ref (ad 0), .int (iI x_o), .ref aO] w_o (pI (fun k_o w2_o => (0 = k_o ∧ ∃ z_o : Int, m_ns (m_lay g_o nr (lts x_o.toNat) (cs x_o.toNat) kO0) = z_o ∧ (0 ≤ x_o ∧ x_o < (T_o : Int)) ∧ w2_o 17 = some (aO, al 1 (kup fO 0 (m_w z_o))) ∧ kEx w_o w2_o kP7 ∧ kSu w2_o ad nr g_o T_o lts cs acs ams rel fnd Ns) ∨ (1 = k_o ∧ ¬ (0 ≤ x_o ∧ x_o < (T_o : Int)) ∧ w2_o 17 = some (aO, al 1 fO) ∧ kEx w_o w2_o kP7 ∧ kSu w2_o ad nr g_o T_o lts cs acs ams rel fnd Ns))) := by
  refine kMN_of hl0 (by decide +kernel) (Nat.le_of_ble_eq_true rfl) ?_
  intro X_o hXl h_o hr htab hNc
  subst hXl
  show kG E_o X_o 4 0 0 w_o 0 [(0, .ref (ad 0)), (1, .int (iI x_o)), (2, .ref aO)] []
  refine k_aload_n h_o 2 dL_formatted_0 rfl rfl ?_
  refine k_iconst h_o dL_formatted_1 ?_
  refine k_aload_n h_o 0 dL_formatted_2 rfl rfl ?_
  refine k_iload_n h_o 1 dL_formatted_3 rfl rfl ?_
  refine k_callVX (As := [.int (iI x_o)]) (rest := [.int (iI 0), .ref aO]) h_o mX6_formatted kq_3_236 (c_X6_formatted hl0 hst hx) 0 hst.1.1 rfl rfl rfl (Nat.le_of_ble_eq_true rfl) ⟨rfl, rfl, ⟨(Nat.le_of_ble_eq_true rfl), (Nat.le_of_ble_eq_true rfl)⟩, ⟨(Nat.le_of_ble_eq_true rfl), (Nat.le_of_ble_eq_true rfl)⟩⟩ dL_formatted_4 ?_ (kcI fun z1_o w1_o hp => ?_)
  · intro Ex wx hx
    obtain ⟨⟨rfl, e1⟩, hsuX, hexX⟩ := hx
    refine k_catch h_o htab [] ⟨0, 9, 12, 37⟩ [] rfl (fun z_o hz => by cases hz) rfl (by decide) kq_3_73 kq_3_116 (fun qx => ?_)
    refine k_astore_n (lv' := [(3, .ref qx), (0, .ref (ad 0)), (1, .int (iI x_o)), (2, .ref aO)]) h_o dL_formatted_12 rfl (by decide) rfl ?_
    refine k_iconst h_o dL_formatted_13 ?_
    exact k_iret h_o hr rfl (⟨_, rfl, Or.inr ⟨rfl, e1, ((hexX 17 (by show ¬ (17 ≤ 16 ∨ 100 ≤ 17); omega)).trans hO), (hexX.sub kPk_P7), hsuX⟩⟩) (by omega) (by omega) dL_formatted_14
  obtain ⟨⟨Oq, hOq, e0⟩, e1, hsuX, hexX⟩ := hp
  have hO1 := ((hexX 17 (by show ¬ (17 ≤ 16 ∨ 100 ≤ 17); omega)).trans hO)
  obtain ⟨hwfX, hcX⟩ := hst.c10 e1
  have hoe := m_oz (g := g_o) (nr := nr) (lt := lts x_o.toNat) (O := Oq) hwfX hcX
  refine k_i2lW h_o dL_formatted_7 ?_
  refine k_last h_o 17 hO1 (by decide) (by decide) dL_formatted_8 ?_
  refine k_goto h_o 15 dL_formatted_9 (by decide) ?_
  refine k_iconst h_o dL_formatted_15 ?_
  exact k_iret h_o hr rfl (⟨_, rfl, Or.inl ⟨rfl, z1_o, (m_oe_ns hoe).symm.trans e0, e1, kset_eq, ((hexX.sub kPk_P7).trans (kEx.kset (Or.inl (by decide)))), (hsuX.ox (kEx.kset (by show 17 ≤ 17 ∧ 17 ≤ 44; decide)))⟩⟩) (by omega) (by omega) dL_formatted_16

set_option maxHeartbeats 4000000 in
set_option maxRecDepth 100000 in
theorem c_L_ruleAt {E_o : kE} {l_o : Launch} (hl0 : l_o.stackTraces = false) {w_o : kW} {ad : Nat → Nat} {nr : Nat} {g_o : Nat → Nat → Int} {T_o : Nat} {lts : Nat → Nat → Int} {cs : Nat → Int} {acs : Nat → Nat → Int} {ams : Nat → Int} {rel fnd : Int} {Ns : Nat → Nat → Nat} {x_o p_o : Int} {aO : Nat} {fO : Nat → Int} (hst : kSu w_o ad nr g_o T_o lts cs acs ams rel fnd Ns) (hx : -2147483648 ≤ x_o ∧ x_o < 2147483648) (hp : -2147483648 ≤ p_o ∧ p_o < 2147483648) (hO : w_o 17 = some (aO, al 1 fO)) : kMN E_o l_o yL_ruleAt (.codeWith yL_ruleAt cL_ruleAt 5 (some .int) [(0, 10, 13, 37), (0, 10, 17, 21)] :: kAL) { frames := 9, cells := 2, slots := 12, locals := 148 } 2 12 [.ref (ad 0), .int (iI x_o), .int (iI p_o), .ref aO] w_o (pI (fun k_o w2_o => (0 = k_o ∧ ∃ z_o : Int, (m_lay g_o nr (lts x_o.toNat) (cs x_o.toNat) kO0).2.1 p_o.toNat = z_o ∧ (0 ≤ x_o ∧ x_o < (T_o : Int)) ∧ (0 ≤ p_o ∧ p_o < (m_lay g_o nr (lts x_o.toNat) (cs x_o.toNat) kO0).1) ∧ w2_o 17 = some (aO, al 1 (kup fO 0 (m_w z_o))) ∧ kEx w_o w2_o kP7 ∧ kSu w2_o ad nr g_o T_o lts cs acs ams rel fnd Ns) ∨ (1 = k_o ∧ ¬ (0 ≤ x_o ∧ x_o < (T_o : Int)) ∧ w2_o 17 = some (aO, al 1 fO) ∧ kEx w_o w2_o kP7 ∧ kSu w2_o ad nr g_o T_o lts cs acs ams rel fnd Ns) ∨ (2 = k_o ∧ ((0 ≤ x_o ∧ x_o < (T_o : Int)) ∧ ¬ (0 ≤ p_o ∧ p_o < (m_lay g_o nr (lts x_o.toNat) (cs x_o.toNat) kO0).1)) ∧ w2_o 17 = some (aO, al 1 fO) ∧ kEx w_o w2_o kP7 ∧ kSu w2_o ad nr g_o T_o lts cs acs ams rel fnd Ns))) := by
  refine kMN_of hl0 (by decide +kernel) (Nat.le_of_ble_eq_true rfl) ?_
  intro X_o hXl h_o hr htab hNc
  subst hXl
  show kG E_o X_o 5 0 0 w_o 0 [(0, .ref (ad 0)), (1, .int (iI x_o)), (2, .int (iI p_o)), (3, .ref aO)] []
  refine k_aload_n h_o 3 dL_ruleAt_0 rfl rfl ?_
  refine k_iconst h_o dL_ruleAt_1 ?_
  refine k_aload_n h_o 0 dL_ruleAt_2 rfl rfl ?_
  refine k_iload_n h_o 1 dL_ruleAt_3 rfl rfl ?_
  refine k_iload_n h_o 2 dL_ruleAt_4 rfl rfl ?_
  refine k_callVX (As := [.int (iI x_o), .int (iI p_o)]) (rest := [.int (iI 0), .ref aO]) h_o mX6_ruleAt kq_3_207 (c_X6_ruleAt hl0 hst hx hp) 0 hst.1.1 rfl rfl rfl (Nat.le_of_ble_eq_true rfl) ⟨rfl, rfl, ⟨(Nat.le_of_ble_eq_true rfl), (Nat.le_of_ble_eq_true rfl)⟩, ⟨(Nat.le_of_ble_eq_true rfl), (Nat.le_of_ble_eq_true rfl)⟩⟩ dL_ruleAt_5 ?_ (kcI fun z1_o w1_o hp => ?_)
  · intro Ex wx hx
    rcases hx with ⟨⟨rfl, e1⟩ | ⟨rfl, e1, Oq, hOq, e3⟩, hsuX, hexX⟩
    · refine k_catch h_o htab [] ⟨0, 10, 13, 37⟩ [⟨0, 10, 17, 21⟩] rfl (fun z_o hz => by cases hz) rfl (by decide) kq_3_73 kq_3_116 (fun qx => ?_)
      refine k_astore (lv' := [(4, .ref qx), (0, .ref (ad 0)), (1, .int (iI x_o)), (2, .int (iI p_o)), (3, .ref aO)]) h_o dL_ruleAt_13 (by decide) rfl ?_
      refine k_iconst h_o dL_ruleAt_15 ?_
      exact k_iret h_o hr rfl (⟨_, rfl, Or.inr (Or.inl ⟨rfl, e1, ((hexX 17 (by show ¬ (17 ≤ 16 ∨ 100 ≤ 17); omega)).trans hO), (hexX.sub kPk_P7), hsuX⟩)⟩) (by omega) (by omega) dL_ruleAt_16
    · refine k_catch h_o htab [⟨0, 10, 13, 37⟩] ⟨0, 10, 17, 21⟩ [] rfl (fun z_o hz => by rcases List.mem_cons.mp hz with rfl | hz; exact Or.inr ⟨(by decide), _, kq_3_73, hNc _ (List.mem_of_getElem? (i := 6) rfl)⟩; cases hz) rfl (by decide) kq_2_227 kq_2_239 (fun qx => ?_)
      refine k_astore (lv' := [(4, .ref qx), (0, .ref (ad 0)), (1, .int (iI x_o)), (2, .int (iI p_o)), (3, .ref aO)]) h_o dL_ruleAt_17 (by decide) rfl ?_
      refine k_iconst h_o dL_ruleAt_19 ?_
      exact k_iret h_o hr rfl (⟨_, rfl, Or.inr (Or.inr ⟨rfl, ⟨e1, fun q_o => by obtain ⟨hwfX, hcX⟩ := hst.c10 e1; have hoe := m_oz (g := g_o) (nr := nr) (lt := lts x_o.toNat) (O := Oq) hwfX hcX; exact e3 (by rw [hoe.1.1]; exact q_o)⟩, ((hexX 17 (by show ¬ (17 ≤ 16 ∨ 100 ≤ 17); omega)).trans hO), (hexX.sub kPk_P7), hsuX⟩)⟩) (by omega) (by omega) dL_ruleAt_20
  obtain ⟨⟨Oq, hOq, e2, e0⟩, e1, hsuX, hexX⟩ := hp
  have hO1 := ((hexX 17 (by show ¬ (17 ≤ 16 ∨ 100 ≤ 17); omega)).trans hO)
  obtain ⟨hwfX, hcX⟩ := hst.c10 e1
  have hoe := m_oz (g := g_o) (nr := nr) (lt := lts x_o.toNat) (O := Oq) hwfX hcX
  refine k_i2lW h_o dL_ruleAt_8 ?_
  refine k_last h_o 17 hO1 (by decide) (by decide) dL_ruleAt_9 ?_
  refine k_goto h_o 21 dL_ruleAt_10 (by decide) ?_
  refine k_iconst h_o dL_ruleAt_21 ?_
  exact k_iret h_o hr rfl (⟨_, rfl, Or.inl ⟨rfl, z1_o, (hoe.2.1 p_o.toNat (by omega)).symm.trans e0, e1, (by rw [← hoe.1.1]; exact e2), kset_eq, ((hexX.sub kPk_P7).trans (kEx.kset (Or.inl (by decide)))), (hsuX.ox (kEx.kset (by show 17 ≤ 17 ∧ 17 ≤ 44; decide)))⟩⟩) (by omega) (by omega) dL_ruleAt_22

set_option maxHeartbeats 4000000 in
set_option maxRecDepth 100000 in
theorem c_L_colourAt {E_o : kE} {l_o : Launch} (hl0 : l_o.stackTraces = false) {w_o : kW} {ad : Nat → Nat} {nr : Nat} {g_o : Nat → Nat → Int} {T_o : Nat} {lts : Nat → Nat → Int} {cs : Nat → Int} {acs : Nat → Nat → Int} {ams : Nat → Int} {rel fnd : Int} {Ns : Nat → Nat → Nat} {x_o p_o : Int} {aO : Nat} {fO : Nat → Int} (hst : kSu w_o ad nr g_o T_o lts cs acs ams rel fnd Ns) (hx : -2147483648 ≤ x_o ∧ x_o < 2147483648) (hp : -2147483648 ≤ p_o ∧ p_o < 2147483648) (hO : w_o 17 = some (aO, al 1 fO)) : kMN E_o l_o yL_colourAt (.codeWith yL_colourAt cL_colourAt 5 (some .int) [(0, 10, 13, 37)] :: kAL) { frames := 8, cells := 2, slots := 12, locals := 128 } 2 12 [.ref (ad 0), .int (iI x_o), .int (iI p_o), .ref aO] w_o (pI (fun k_o w2_o => (0 = k_o ∧ ∃ z_o : Int, (m_lay g_o nr (lts x_o.toNat) (cs x_o.toNat) kO0).2.2.1 p_o.toNat = z_o ∧ ((0 ≤ x_o ∧ x_o < (T_o : Int)) ∧ 0 ≤ p_o ∧ p_o < cs x_o.toNat) ∧ w2_o 17 = some (aO, al 1 (kup fO 0 (m_w z_o))) ∧ kEx w_o w2_o kP7 ∧ kSu w2_o ad nr g_o T_o lts cs acs ams rel fnd Ns) ∨ (1 = k_o ∧ ¬ ((0 ≤ x_o ∧ x_o < (T_o : Int)) ∧ 0 ≤ p_o ∧ p_o < cs x_o.toNat) ∧ w2_o 17 = some (aO, al 1 fO) ∧ kEx w_o w2_o kP7 ∧ kSu w2_o ad nr g_o T_o lts cs acs ams rel fnd Ns))) := by
  refine kMN_of hl0 (by decide +kernel) (Nat.le_of_ble_eq_true rfl) ?_
  intro X_o hXl h_o hr htab hNc
  subst hXl
  show kG E_o X_o 5 0 0 w_o 0 [(0, .ref (ad 0)), (1, .int (iI x_o)), (2, .int (iI p_o)), (3, .ref aO)] []
  refine k_aload_n h_o 3 dL_colourAt_0 rfl rfl ?_
  refine k_iconst h_o dL_colourAt_1 ?_
  refine k_aload_n h_o 0 dL_colourAt_2 rfl rfl ?_
  refine k_iload_n h_o 1 dL_colourAt_3 rfl rfl ?_
  refine k_iload_n h_o 2 dL_colourAt_4 rfl rfl ?_
  refine k_callVX (As := [.int (iI x_o), .int (iI p_o)]) (rest := [.int (iI 0), .ref aO]) h_o mX6_colourAt kq_3_225 (c_X6_colourAt hl0 hst hx hp) 0 hst.1.1 rfl rfl rfl (Nat.le_of_ble_eq_true rfl) ⟨rfl, rfl, ⟨(Nat.le_of_ble_eq_true rfl), (Nat.le_of_ble_eq_true rfl)⟩, ⟨(Nat.le_of_ble_eq_true rfl), (Nat.le_of_ble_eq_true rfl)⟩⟩ dL_colourAt_5 ?_ (kcI fun z1_o w1_o hp => ?_)
  · intro Ex wx hx
    obtain ⟨⟨rfl, e1⟩, hsuX, hexX⟩ := hx
    refine k_catch h_o htab [] ⟨0, 10, 13, 37⟩ [] rfl (fun z_o hz => by cases hz) rfl (by decide) kq_3_73 kq_3_116 (fun qx => ?_)
    refine k_astore (lv' := [(4, .ref qx), (0, .ref (ad 0)), (1, .int (iI x_o)), (2, .int (iI p_o)), (3, .ref aO)]) h_o dL_colourAt_13 (by decide) rfl ?_
    refine k_iconst h_o dL_colourAt_15 ?_
    exact k_iret h_o hr rfl (⟨_, rfl, Or.inr ⟨rfl, e1, ((hexX 17 (by show ¬ (17 ≤ 16 ∨ 100 ≤ 17); omega)).trans hO), (hexX.sub kPk_P7), hsuX⟩⟩) (by omega) (by omega) dL_colourAt_16
  obtain ⟨⟨Oq, hOq, e0⟩, e1, hsuX, hexX⟩ := hp
  have hO1 := ((hexX 17 (by show ¬ (17 ≤ 16 ∨ 100 ≤ 17); omega)).trans hO)
  obtain ⟨hwfX, hcX⟩ := hst.c10 e1.1
  have hoe := m_oz (g := g_o) (nr := nr) (lt := lts x_o.toNat) (O := Oq) hwfX hcX
  refine k_i2lW h_o dL_colourAt_8 ?_
  refine k_last h_o 17 hO1 (by decide) (by decide) dL_colourAt_9 ?_
  refine k_goto h_o 17 dL_colourAt_10 (by decide) ?_
  refine k_iconst h_o dL_colourAt_17 ?_
  exact k_iret h_o hr rfl (⟨_, rfl, Or.inl ⟨rfl, z1_o, (hoe.2.2.1 p_o.toNat (by omega)).symm.trans e0, e1, kset_eq, ((hexX.sub kPk_P7).trans (kEx.kset (Or.inl (by decide)))), (hsuX.ox (kEx.kset (by show 17 ≤ 17 ∧ 17 ≤ 44; decide)))⟩⟩) (by omega) (by omega) dL_colourAt_18

set_option maxHeartbeats 4000000 in
set_option maxRecDepth 100000 in
theorem c_L_formattedAt {E_o : kE} {l_o : Launch} (hl0 : l_o.stackTraces = false) {w_o : kW} {ad : Nat → Nat} {nr : Nat} {g_o : Nat → Nat → Int} {T_o : Nat} {lts : Nat → Nat → Int} {cs : Nat → Int} {acs : Nat → Nat → Int} {ams : Nat → Int} {rel fnd : Int} {Ns : Nat → Nat → Nat} {x_o p_o : Int} {aO : Nat} {fO : Nat → Int} (hst : kSu w_o ad nr g_o T_o lts cs acs ams rel fnd Ns) (hx : -2147483648 ≤ x_o ∧ x_o < 2147483648) (hp : -2147483648 ≤ p_o ∧ p_o < 2147483648) (hO : w_o 17 = some (aO, al 1 fO)) : kMN E_o l_o yL_formattedAt (.codeWith yL_formattedAt cL_formattedAt 5 (some .int) [(0, 10, 13, 37), (0, 10, 17, 21)] :: kAL) { frames := 8, cells := 2, slots := 12, locals := 128 } 2 12 [.ref (ad 0), .int (iI x_o), .int (iI p_o), .ref aO] w_o (pI (fun k_o w2_o => (0 = k_o ∧ ∃ z_o : Int, m_sg (m_lay g_o nr (lts x_o.toNat) (cs x_o.toNat) kO0).2.2.2.1 (lts x_o.toNat) p_o 10 0 0 = z_o ∧ (0 ≤ x_o ∧ x_o < (T_o : Int)) ∧ (0 ≤ p_o ∧ p_o < m_ns (m_lay g_o nr (lts x_o.toNat) (cs x_o.toNat) kO0)) ∧ w2_o 17 = some (aO, al 1 (kup fO 0 (m_w z_o))) ∧ kEx w_o w2_o kP7 ∧ kSu w2_o ad nr g_o T_o lts cs acs ams rel fnd Ns) ∨ (1 = k_o ∧ ¬ (0 ≤ x_o ∧ x_o < (T_o : Int)) ∧ w2_o 17 = some (aO, al 1 fO) ∧ kEx w_o w2_o kP7 ∧ kSu w2_o ad nr g_o T_o lts cs acs ams rel fnd Ns) ∨ (2 = k_o ∧ ((0 ≤ x_o ∧ x_o < (T_o : Int)) ∧ ¬ (0 ≤ p_o ∧ p_o < m_ns (m_lay g_o nr (lts x_o.toNat) (cs x_o.toNat) kO0))) ∧ w2_o 17 = some (aO, al 1 fO) ∧ kEx w_o w2_o kP7 ∧ kSu w2_o ad nr g_o T_o lts cs acs ams rel fnd Ns))) := by
  refine kMN_of hl0 (by decide +kernel) (Nat.le_of_ble_eq_true rfl) ?_
  intro X_o hXl h_o hr htab hNc
  subst hXl
  show kG E_o X_o 5 0 0 w_o 0 [(0, .ref (ad 0)), (1, .int (iI x_o)), (2, .int (iI p_o)), (3, .ref aO)] []
  refine k_aload_n h_o 3 dL_formattedAt_0 rfl rfl ?_
  refine k_iconst h_o dL_formattedAt_1 ?_
  refine k_aload_n h_o 0 dL_formattedAt_2 rfl rfl ?_
  refine k_iload_n h_o 1 dL_formattedAt_3 rfl rfl ?_
  refine k_iload_n h_o 2 dL_formattedAt_4 rfl rfl ?_
  refine k_callVX (As := [.int (iI x_o), .int (iI p_o)]) (rest := [.int (iI 0), .ref aO]) h_o mX6_formattedAt kq_4_7 (c_X6_formattedAt hl0 hst hx hp) 0 hst.1.1 rfl rfl rfl (Nat.le_of_ble_eq_true rfl) ⟨rfl, rfl, ⟨(Nat.le_of_ble_eq_true rfl), (Nat.le_of_ble_eq_true rfl)⟩, ⟨(Nat.le_of_ble_eq_true rfl), (Nat.le_of_ble_eq_true rfl)⟩⟩ dL_formattedAt_5 ?_ (kcI fun z1_o w1_o hp => ?_)
  · intro Ex wx hx
    rcases hx with ⟨⟨rfl, e1⟩ | ⟨rfl, e1, Oq, hOq, e3⟩, hsuX, hexX⟩
    · refine k_catch h_o htab [] ⟨0, 10, 13, 37⟩ [⟨0, 10, 17, 21⟩] rfl (fun z_o hz => by cases hz) rfl (by decide) kq_3_73 kq_3_116 (fun qx => ?_)
      refine k_astore (lv' := [(4, .ref qx), (0, .ref (ad 0)), (1, .int (iI x_o)), (2, .int (iI p_o)), (3, .ref aO)]) h_o dL_formattedAt_13 (by decide) rfl ?_
      refine k_iconst h_o dL_formattedAt_15 ?_
      exact k_iret h_o hr rfl (⟨_, rfl, Or.inr (Or.inl ⟨rfl, e1, ((hexX 17 (by show ¬ (17 ≤ 16 ∨ 100 ≤ 17); omega)).trans hO), (hexX.sub kPk_P7), hsuX⟩)⟩) (by omega) (by omega) dL_formattedAt_16
    · refine k_catch h_o htab [⟨0, 10, 13, 37⟩] ⟨0, 10, 17, 21⟩ [] rfl (fun z_o hz => by rcases List.mem_cons.mp hz with rfl | hz; exact Or.inr ⟨(by decide), _, kq_3_73, hNc _ (List.mem_of_getElem? (i := 6) rfl)⟩; cases hz) rfl (by decide) kq_2_227 kq_2_239 (fun qx => ?_)
      refine k_astore (lv' := [(4, .ref qx), (0, .ref (ad 0)), (1, .int (iI x_o)), (2, .int (iI p_o)), (3, .ref aO)]) h_o dL_formattedAt_17 (by decide) rfl ?_
      refine k_iconst h_o dL_formattedAt_19 ?_
      exact k_iret h_o hr rfl (⟨_, rfl, Or.inr (Or.inr ⟨rfl, ⟨e1, fun q_o => by obtain ⟨hwfX, hcX⟩ := hst.c10 e1; have hoe := m_oz (g := g_o) (nr := nr) (lt := lts x_o.toNat) (O := Oq) hwfX hcX; exact e3 (by rw [m_oe_ns hoe]; exact q_o)⟩, ((hexX 17 (by show ¬ (17 ≤ 16 ∨ 100 ≤ 17); omega)).trans hO), (hexX.sub kPk_P7), hsuX⟩)⟩) (by omega) (by omega) dL_formattedAt_20
  obtain ⟨⟨Oq, hOq, e2, e0⟩, e1, hsuX, hexX⟩ := hp
  have hO1 := ((hexX 17 (by show ¬ (17 ≤ 16 ∨ 100 ≤ 17); omega)).trans hO)
  obtain ⟨hwfX, hcX⟩ := hst.c10 e1
  have hoe := m_oz (g := g_o) (nr := nr) (lt := lts x_o.toNat) (O := Oq) hwfX hcX
  refine k_i2lW h_o dL_formattedAt_8 ?_
  refine k_last h_o 17 hO1 (by decide) (by decide) dL_formattedAt_9 ?_
  refine k_goto h_o 21 dL_formattedAt_10 (by decide) ?_
  refine k_iconst h_o dL_formattedAt_21 ?_
  exact k_iret h_o hr rfl (⟨_, rfl, Or.inl ⟨rfl, z1_o, (m_sg_cg (fun q_o hq => hoe.2.2.2.1 q_o (by omega))).symm.trans e0, e1, (by rw [← m_oe_ns hoe]; exact e2), kset_eq, ((hexX.sub kPk_P7).trans (kEx.kset (Or.inl (by decide)))), (hsuX.ox (kEx.kset (by show 17 ≤ 17 ∧ 17 ≤ 44; decide)))⟩⟩) (by omega) (by omega) dL_formattedAt_22

set_option maxHeartbeats 4000000 in
set_option maxRecDepth 100000 in
theorem c_L_accept {E_o : kE} {l_o : Launch} (hl0 : l_o.stackTraces = false) {w_o : kW} {ad : Nat → Nat} {nr : Nat} {g_o : Nat → Nat → Int} {T_o : Nat} {lts : Nat → Nat → Int} {cs : Nat → Int} {acs : Nat → Nat → Int} {ams : Nat → Int} {rel fnd : Int} {Ns : Nat → Nat → Nat} {x_o : Int} {aO : Nat} {fO : Nat → Int} (hst : kSu w_o ad nr g_o T_o lts cs acs ams rel fnd Ns) (hx : -2147483648 ≤ x_o ∧ x_o < 2147483648) (hO : w_o 17 = some (aO, al 1 fO)) : kMN E_o l_o yL_accept (.codeWith yL_accept cL_accept 4 (some .int) [(0, 9, 12, 37), (0, 9, 15, 15)] :: kAL) { frames := 8, cells := 2, slots := 12, locals := 127 } 2 12 [.ref (ad 0), .int (iI x_o), .ref aO] w_o (pI (fun k_o w2_o => (0 = k_o ∧ ∃ z_o : Int, (m_lay g_o nr (lts x_o.toNat) (cs x_o.toNat) kO0).1 = z_o ∧ (0 ≤ x_o ∧ x_o < (T_o : Int)) ∧ (m_lay g_o nr (lts x_o.toNat) (cs x_o.toNat) kO0).1 ≠ 0 ∧ w2_o 17 = some (aO, al 1 (kup fO 0 (m_w z_o))) ∧ kEx w_o w2_o kP7 ∧ ∃ (ac2 : Nat → Int), (∀ p_o : Nat, (p_o : Int) < (m_lay g_o nr (lts x_o.toNat) (cs x_o.toNat) kO0).1 → ac2 p_o = (m_lay g_o nr (lts x_o.toNat) (cs x_o.toNat) kO0).2.1 p_o) ∧ kSu w2_o ad nr g_o T_o lts cs (kup acs x_o.toNat ac2) (kup ams x_o.toNat (m_lay g_o nr (lts x_o.toNat) (cs x_o.toNat) kO0).1) rel fnd Ns) ∨ (1 = k_o ∧ ¬ (0 ≤ x_o ∧ x_o < (T_o : Int)) ∧ w2_o 17 = some (aO, al 1 fO) ∧ kEx w_o w2_o kP7 ∧ kSu w2_o ad nr g_o T_o lts cs acs ams rel fnd Ns) ∨ (2 = k_o ∧ ((0 ≤ x_o ∧ x_o < (T_o : Int)) ∧ (m_lay g_o nr (lts x_o.toNat) (cs x_o.toNat) kO0).1 = 0) ∧ w2_o 17 = some (aO, al 1 fO) ∧ kEx w_o w2_o kP7 ∧ kSu w2_o ad nr g_o T_o lts cs acs ams rel fnd Ns))) := by
  refine kMN_of hl0 (by decide +kernel) (Nat.le_of_ble_eq_true rfl) ?_
  intro X_o hXl h_o hr htab hNc
  subst hXl
  show kG E_o X_o 4 0 0 w_o 0 [(0, .ref (ad 0)), (1, .int (iI x_o)), (2, .ref aO)] []
  refine k_aload_n h_o 2 dL_accept_0 rfl rfl ?_
  refine k_iconst h_o dL_accept_1 ?_
  refine k_aload_n h_o 0 dL_accept_2 rfl rfl ?_
  refine k_iload_n h_o 1 dL_accept_3 rfl rfl ?_
  refine k_callVX (As := [.int (iI x_o)]) (rest := [.int (iI 0), .ref aO]) h_o mX6_accept kq_4_19 (c_X6_accept hl0 hst hx) 0 hst.1.1 rfl rfl rfl (Nat.le_of_ble_eq_true rfl) ⟨rfl, rfl, ⟨(Nat.le_of_ble_eq_true rfl), (Nat.le_of_ble_eq_true rfl)⟩, ⟨(Nat.le_of_ble_eq_true rfl), (Nat.le_of_ble_eq_true rfl)⟩⟩ dL_accept_4 ?_ (kcI fun z1_o w1_o hp => ?_)
  · intro Ex wx hx
    rcases hx with ⟨⟨rfl, e1⟩ | ⟨rfl, e1, e2⟩, hsuX, hexX⟩
    · refine k_catch h_o htab [] ⟨0, 9, 12, 37⟩ [⟨0, 9, 15, 15⟩] rfl (fun z_o hz => by cases hz) rfl (by decide) kq_3_73 kq_3_116 (fun qx => ?_)
      refine k_astore_n (lv' := [(3, .ref qx), (0, .ref (ad 0)), (1, .int (iI x_o)), (2, .ref aO)]) h_o dL_accept_12 rfl (by decide) rfl ?_
      refine k_iconst h_o dL_accept_13 ?_
      exact k_iret h_o hr rfl (⟨_, rfl, Or.inr (Or.inl ⟨rfl, e1, ((hexX 17 (by show ¬ (17 ≤ 16 ∨ 100 ≤ 17); omega)).trans hO), (hexX.sub kPk_P7), hsuX⟩)⟩) (by omega) (by omega) dL_accept_14
    · refine k_catch h_o htab [⟨0, 9, 12, 37⟩] ⟨0, 9, 15, 15⟩ [] rfl (fun z_o hz => by rcases List.mem_cons.mp hz with rfl | hz; exact Or.inr ⟨(by decide), _, kq_3_73, hNc _ (List.mem_of_getElem? (i := 4) rfl)⟩; cases hz) rfl (by decide) kq_2_49 kq_2_138 (fun qx => ?_)
      refine k_astore_n (lv' := [(3, .ref qx), (0, .ref (ad 0)), (1, .int (iI x_o)), (2, .ref aO)]) h_o dL_accept_15 rfl (by decide) rfl ?_
      refine k_iconst h_o dL_accept_16 ?_
      exact k_iret h_o hr rfl (⟨_, rfl, Or.inr (Or.inr ⟨rfl, ⟨e1, e2⟩, ((hexX 17 (by show ¬ (17 ≤ 16 ∨ 100 ≤ 17); omega)).trans hO), (hexX.sub kPk_P7), hsuX⟩)⟩) (by omega) (by omega) dL_accept_17
  obtain ⟨e0, e1, e2, ac2, e3, hsuX, hexX⟩ := hp
  have hO1 := ((hexX 17 (by show ¬ (17 ≤ 16 ∨ 100 ≤ 17); omega)).trans hO)
  refine k_i2lW h_o dL_accept_7 ?_
  refine k_last h_o 17 hO1 (by decide) (by decide) dL_accept_8 ?_
  refine k_goto h_o 18 dL_accept_9 (by decide) ?_
  refine k_iconst h_o dL_accept_18 ?_
  exact k_iret h_o hr rfl (⟨_, rfl, Or.inl ⟨rfl, z1_o, e0, e1, e2, kset_eq, ((hexX.sub kPk_P7).trans (kEx.kset (Or.inl (by decide)))), ac2, e3, (hsuX.ox (kEx.kset (by show 17 ≤ 17 ∧ 17 ≤ 44; decide)))⟩⟩) (by omega) (by omega) dL_accept_19

set_option maxHeartbeats 4000000 in
set_option maxRecDepth 100000 in
theorem c_L_fault {E_o : kE} {l_o : Launch} (hl0 : l_o.stackTraces = false) {w_o : kW} {ad : Nat → Nat} {nr : Nat} {g_o : Nat → Nat → Int} {T_o : Nat} {lts : Nat → Nat → Int} {cs : Nat → Int} {acs : Nat → Nat → Int} {ams : Nat → Int} {rel fnd : Int} {Ns : Nat → Nat → Nat} {x_o : Int} {aO : Nat} {fO : Nat → Int} (hst : kSu w_o ad nr g_o T_o lts cs acs ams rel fnd Ns) (hx : -2147483648 ≤ x_o ∧ x_o < 2147483648) (hO : w_o 17 = some (aO, al 1 fO)) : kMN E_o l_o yL_fault (.codeWith yL_fault cL_fault 4 (some .int) [(0, 9, 12, 37)] :: kAL) { frames := 8, cells := 1, slots := 6, locals := 148 } 1 6 [.ref (ad 0), .int (iI x_o), .ref aO] w_o (pI (fun k_o w2_o => (0 = k_o ∧ ∃ z_o : Int, m_fv g_o nr (lts x_o.toNat) (cs x_o.toNat) (acs x_o.toNat) (ams x_o.toNat) = z_o ∧ (0 ≤ x_o ∧ x_o < (T_o : Int)) ∧ w2_o 17 = some (aO, al 1 (kup fO 0 (m_w z_o))) ∧ kEx w_o w2_o kP7 ∧ kSu w2_o ad nr g_o T_o lts cs acs ams rel fnd Ns) ∨ (1 = k_o ∧ ¬ (0 ≤ x_o ∧ x_o < (T_o : Int)) ∧ w2_o 17 = some (aO, al 1 fO) ∧ kEx w_o w2_o kP7 ∧ kSu w2_o ad nr g_o T_o lts cs acs ams rel fnd Ns))) := by
  refine kMN_of hl0 (by decide +kernel) (Nat.le_of_ble_eq_true rfl) ?_
  intro X_o hXl h_o hr htab hNc
  subst hXl
  show kG E_o X_o 4 0 0 w_o 0 [(0, .ref (ad 0)), (1, .int (iI x_o)), (2, .ref aO)] []
  refine k_aload_n h_o 2 dL_fault_0 rfl rfl ?_
  refine k_iconst h_o dL_fault_1 ?_
  refine k_aload_n h_o 0 dL_fault_2 rfl rfl ?_
  refine k_iload_n h_o 1 dL_fault_3 rfl rfl ?_
  refine k_callVX (As := [.int (iI x_o)]) (rest := [.int (iI 0), .ref aO]) h_o mX6_fault kq_4_32 (c_X6_fault hl0 hst hx) 0 hst.1.1 rfl rfl rfl (Nat.le_of_ble_eq_true rfl) ⟨rfl, rfl, ⟨(Nat.le_of_ble_eq_true rfl), (Nat.le_of_ble_eq_true rfl)⟩, ⟨(Nat.le_of_ble_eq_true rfl), (Nat.le_of_ble_eq_true rfl)⟩⟩ dL_fault_4 ?_ (kcI fun z1_o w1_o hp => ?_)
  · intro Ex wx hx
    obtain ⟨⟨rfl, e1⟩, hsuX, hexX⟩ := hx
    refine k_catch h_o htab [] ⟨0, 9, 12, 37⟩ [] rfl (fun z_o hz => by cases hz) rfl (by decide) kq_3_73 kq_3_116 (fun qx => ?_)
    refine k_astore_n (lv' := [(3, .ref qx), (0, .ref (ad 0)), (1, .int (iI x_o)), (2, .ref aO)]) h_o dL_fault_12 rfl (by decide) rfl ?_
    refine k_iconst h_o dL_fault_13 ?_
    exact k_iret h_o hr rfl (⟨_, rfl, Or.inr ⟨rfl, e1, ((hexX 17 (by show ¬ (17 ≤ 16 ∨ 100 ≤ 17); omega)).trans hO), (hexX.sub kPk_P7), hsuX⟩⟩) (by omega) (by omega) dL_fault_14
  obtain ⟨e0, e1, hsuX, hexX⟩ := hp
  have hO1 := ((hexX 17 (by show ¬ (17 ≤ 16 ∨ 100 ≤ 17); omega)).trans hO)
  refine k_i2lW h_o dL_fault_7 ?_
  refine k_last h_o 17 hO1 (by decide) (by decide) dL_fault_8 ?_
  refine k_goto h_o 15 dL_fault_9 (by decide) ?_
  refine k_iconst h_o dL_fault_15 ?_
  exact k_iret h_o hr rfl (⟨_, rfl, Or.inl ⟨rfl, z1_o, e0, e1, kset_eq, ((hexX.sub kPk_P7).trans (kEx.kset (Or.inl (by decide)))), (hsuX.ox (kEx.kset (by show 17 ≤ 17 ∧ 17 ≤ 44; decide)))⟩⟩) (by omega) (by omega) dL_fault_16

set_option maxHeartbeats 4000000 in
set_option maxRecDepth 100000 in
theorem c_L_release {E_o : kE} {l_o : Launch} (hl0 : l_o.stackTraces = false) {w_o : kW} {ad : Nat → Nat} {nr : Nat} {g_o : Nat → Nat → Int} {T_o : Nat} {lts : Nat → Nat → Int} {cs : Nat → Int} {acs : Nat → Nat → Int} {ams : Nat → Int} {rel fnd : Int} {Ns : Nat → Nat → Nat}  {aO : Nat} {fO : Nat → Int} (hst : kSu w_o ad nr g_o T_o lts cs acs ams rel fnd Ns)  (hO : w_o 17 = some (aO, al 1 fO)) : kMN E_o l_o yL_release (.codeWith yL_release cL_release 3 (some .int) [(0, 8, 11, 15), (0, 8, 14, 54)] :: kAL) { frames := 7, cells := 1, slots := 6, locals := 172 } 1 6 [.ref (ad 0), .ref aO] w_o (pI (fun k_o w2_o => (0 = k_o ∧ ∃ z_o : Int, rel + 1 = z_o ∧ (T_o ≠ 0 ∧ m_tc (fun t_o => t_o < T_o ∧ m_fv g_o nr (lts t_o) (cs t_o) (acs t_o) (ams t_o) = 45) 6 = (T_o : Int)) ∧ w2_o 17 = some (aO, al 1 (kup fO 0 (m_w z_o))) ∧ kEx w_o w2_o kP7 ∧ kSu w2_o ad nr g_o T_o lts cs acs ams (rel + 1) fnd Ns) ∨ (1 = k_o ∧ T_o = 0 ∧ w2_o 17 = some (aO, al 1 fO) ∧ kEx w_o w2_o kP7 ∧ kSu w2_o ad nr g_o T_o lts cs acs ams rel fnd Ns) ∨ (2 = k_o ∧ (T_o ≠ 0 ∧ m_tc (fun t_o => t_o < T_o ∧ m_fv g_o nr (lts t_o) (cs t_o) (acs t_o) (ams t_o) = 45) 6 ≠ (T_o : Int)) ∧ w2_o 17 = some (aO, al 1 fO) ∧ kEx w_o w2_o kP7 ∧ kSu w2_o ad nr g_o T_o lts cs acs ams rel fnd Ns))) := by
  refine kMN_of hl0 (by decide +kernel) (Nat.le_of_ble_eq_true rfl) ?_
  intro X_o hXl h_o hr htab hNc
  subst hXl
  show kG E_o X_o 3 0 0 w_o 0 [(0, .ref (ad 0)), (1, .ref aO)] []
  refine k_aload_n h_o 1 dL_release_0 rfl rfl ?_
  refine k_iconst h_o dL_release_1 ?_
  refine k_aload_n h_o 0 dL_release_2 rfl rfl ?_
  refine k_callVX (As := []) (rest := [.int (iI 0), .ref aO]) h_o mX6_release kq_4_47 (c_X6_release hl0 hst ) 0 hst.1.1 rfl rfl rfl (Nat.le_of_ble_eq_true rfl) ⟨rfl, rfl, ⟨(Nat.le_of_ble_eq_true rfl), (Nat.le_of_ble_eq_true rfl)⟩, ⟨(Nat.le_of_ble_eq_true rfl), (Nat.le_of_ble_eq_true rfl)⟩⟩ dL_release_3 ?_ (kcI fun z1_o w1_o hp => ?_)
  · intro Ex wx hx
    rcases hx with ⟨⟨rfl, e1⟩ | ⟨rfl, e1, e2⟩, hsuX, hexX⟩
    · refine k_catch h_o htab [] ⟨0, 8, 11, 15⟩ [⟨0, 8, 14, 54⟩] rfl (fun z_o hz => by cases hz) rfl (by decide) kq_2_49 kq_2_138 (fun qx => ?_)
      refine k_astore_n (lv' := [(2, .ref qx), (0, .ref (ad 0)), (1, .ref aO)]) h_o dL_release_11 rfl (by decide) rfl ?_
      refine k_iconst h_o dL_release_12 ?_
      exact k_iret h_o hr rfl (⟨_, rfl, Or.inr (Or.inl ⟨rfl, e1, ((hexX 17 (by show ¬ (17 ≤ 16 ∨ 100 ≤ 17); omega)).trans hO), (hexX.sub kPk_P7), hsuX⟩)⟩) (by omega) (by omega) dL_release_13
    · refine k_catch h_o htab [⟨0, 8, 11, 15⟩] ⟨0, 8, 14, 54⟩ [] rfl (fun z_o hz => by rcases List.mem_cons.mp hz with rfl | hz; exact Or.inr ⟨(by decide), _, kq_2_49, hNc _ (List.mem_of_getElem? (i := 7) rfl)⟩; cases hz) rfl (by decide) kq_3_165 kq_3_172 (fun qx => ?_)
      refine k_astore_n (lv' := [(2, .ref qx), (0, .ref (ad 0)), (1, .ref aO)]) h_o dL_release_14 rfl (by decide) rfl ?_
      refine k_iconst h_o dL_release_15 ?_
      exact k_iret h_o hr rfl (⟨_, rfl, Or.inr (Or.inr ⟨rfl, ⟨e1, e2⟩, ((hexX 17 (by show ¬ (17 ≤ 16 ∨ 100 ≤ 17); omega)).trans hO), (hexX.sub kPk_P7), hsuX⟩)⟩) (by omega) (by omega) dL_release_16
  obtain ⟨e0, e1, hsuX, hexX⟩ := hp
  have hO1 := ((hexX 17 (by show ¬ (17 ≤ 16 ∨ 100 ≤ 17); omega)).trans hO)
  refine k_i2lW h_o dL_release_6 ?_
  refine k_last h_o 17 hO1 (by decide) (by decide) dL_release_7 ?_
  refine k_goto h_o 17 dL_release_8 (by decide) ?_
  refine k_iconst h_o dL_release_17 ?_
  exact k_iret h_o hr rfl (⟨_, rfl, Or.inl ⟨rfl, z1_o, e0, e1, kset_eq, ((hexX.sub kPk_P7).trans (kEx.kset (Or.inl (by decide)))), (hsuX.ox (kEx.kset (by show 17 ≤ 17 ∧ 17 ≤ 44; decide)))⟩⟩) (by omega) (by omega) dL_release_18

set_option maxHeartbeats 4000000 in
set_option maxRecDepth 100000 in
theorem c_L_ambiguous {E_o : kE} {l_o : Launch} (hl0 : l_o.stackTraces = false) {w_o : kW} {ad : Nat → Nat} {nr : Nat} {g_o : Nat → Nat → Int} {T_o : Nat} {lts : Nat → Nat → Int} {cs : Nat → Int} {acs : Nat → Nat → Int} {ams : Nat → Int} {rel fnd : Int} {Ns : Nat → Nat → Nat} {K_o L_o : Int} {aO : Nat} {fO : Nat → Int} (hst : kSu w_o ad nr g_o T_o lts cs acs ams rel fnd Ns) (hK : -2147483648 ≤ K_o ∧ K_o < 2147483648) (hL : -2147483648 ≤ L_o ∧ L_o < 2147483648) (hO : w_o 17 = some (aO, al 1 fO)) : kMN E_o l_o yL_ambiguous (.codeWith yL_ambiguous cL_ambiguous 5 (some .int) [(0, 10, 13, 13), (0, 10, 17, 21)] :: kAL) { frames := 8, cells := 1, slots := 6, locals := 170 } 1 6 [.ref (ad 0), .int (iI K_o), .int (iI L_o), .ref aO] w_o (pI (fun k_o w2_o => (0 = k_o ∧ ∃ z_o : Int, (((1 ≤ K_o ∧ K_o ≤ 3) ∧ 1 ≤ L_o ∧ L_o ≤ 4) ∧ ∃ n_o : Nat, m_ar g_o nr K_o L_o z_o.toNat n_o ∧ (1 ≤ z_o ∧ z_o ≤ 4)) ∧ w2_o 17 = some (aO, al 1 (kup fO 0 (m_w z_o))) ∧ kEx w_o w2_o kP7 ∧ kSu w2_o ad nr g_o T_o lts cs acs ams rel fnd Ns) ∨ (1 = k_o ∧ ¬ ((1 ≤ K_o ∧ K_o ≤ 3) ∧ 1 ≤ L_o ∧ L_o ≤ 4) ∧ w2_o 17 = some (aO, al 1 fO) ∧ kEx w_o w2_o kP7 ∧ kSu w2_o ad nr g_o T_o lts cs acs ams rel fnd Ns) ∨ (2 = k_o ∧ (((1 ≤ K_o ∧ K_o ≤ 3) ∧ 1 ≤ L_o ∧ L_o ≤ 4) ∧ m_an g_o nr K_o L_o) ∧ w2_o 17 = some (aO, al 1 fO) ∧ kEx w_o w2_o kP7 ∧ kSu w2_o ad nr g_o T_o lts cs acs ams rel fnd Ns))) := by
  refine kMN_of hl0 (by decide +kernel) (Nat.le_of_ble_eq_true rfl) ?_
  intro X_o hXl h_o hr htab hNc
  subst hXl
  show kG E_o X_o 5 0 0 w_o 0 [(0, .ref (ad 0)), (1, .int (iI K_o)), (2, .int (iI L_o)), (3, .ref aO)] []
  refine k_aload_n h_o 3 dL_ambiguous_0 rfl rfl ?_
  refine k_iconst h_o dL_ambiguous_1 ?_
  refine k_aload_n h_o 0 dL_ambiguous_2 rfl rfl ?_
  refine k_iload_n h_o 1 dL_ambiguous_3 rfl rfl ?_
  refine k_iload_n h_o 2 dL_ambiguous_4 rfl rfl ?_
  refine k_callVX (As := [.int (iI K_o), .int (iI L_o)]) (rest := [.int (iI 0), .ref aO]) h_o mX6_ambiguous kq_4_58 (c_X6_ambiguous hl0 hst hK hL) 0 hst.1.1 rfl rfl rfl (Nat.le_of_ble_eq_true rfl) ⟨rfl, rfl, ⟨(Nat.le_of_ble_eq_true rfl), (Nat.le_of_ble_eq_true rfl)⟩, ⟨(Nat.le_of_ble_eq_true rfl), (Nat.le_of_ble_eq_true rfl)⟩⟩ dL_ambiguous_5 ?_ (kcI fun z1_o w1_o hp => ?_)
  · intro Ex wx hx
    rcases hx with ⟨⟨rfl, e1⟩ | ⟨rfl, e1, e2⟩, hsuX, hexX⟩
    · refine k_catch h_o htab [] ⟨0, 10, 13, 13⟩ [⟨0, 10, 17, 21⟩] rfl (fun z_o hz => by cases hz) rfl (by decide) kq_2_48 kq_2_66 (fun qx => ?_)
      refine k_astore (lv' := [(4, .ref qx), (0, .ref (ad 0)), (1, .int (iI K_o)), (2, .int (iI L_o)), (3, .ref aO)]) h_o dL_ambiguous_13 (by decide) rfl ?_
      refine k_iconst h_o dL_ambiguous_15 ?_
      exact k_iret h_o hr rfl (⟨_, rfl, Or.inr (Or.inl ⟨rfl, e1, ((hexX 17 (by show ¬ (17 ≤ 16 ∨ 100 ≤ 17); omega)).trans hO), (hexX.sub kPk_P7), hsuX⟩)⟩) (by omega) (by omega) dL_ambiguous_16
    · refine k_catch h_o htab [⟨0, 10, 13, 13⟩] ⟨0, 10, 17, 21⟩ [] rfl (fun z_o hz => by rcases List.mem_cons.mp hz with rfl | hz; exact Or.inr ⟨(by decide), _, kq_2_48, hNc _ (List.mem_of_getElem? (i := 1) rfl)⟩; cases hz) rfl (by decide) kq_2_227 kq_2_239 (fun qx => ?_)
      refine k_astore (lv' := [(4, .ref qx), (0, .ref (ad 0)), (1, .int (iI K_o)), (2, .int (iI L_o)), (3, .ref aO)]) h_o dL_ambiguous_17 (by decide) rfl ?_
      refine k_iconst h_o dL_ambiguous_19 ?_
      exact k_iret h_o hr rfl (⟨_, rfl, Or.inr (Or.inr ⟨rfl, ⟨e1, e2⟩, ((hexX 17 (by show ¬ (17 ≤ 16 ∨ 100 ≤ 17); omega)).trans hO), (hexX.sub kPk_P7), hsuX⟩)⟩) (by omega) (by omega) dL_ambiguous_20
  obtain ⟨e0, e1, hsuX, hexX⟩ := hp
  have hO1 := ((hexX 17 (by show ¬ (17 ≤ 16 ∨ 100 ≤ 17); omega)).trans hO)
  refine k_i2lW h_o dL_ambiguous_8 ?_
  refine k_last h_o 17 hO1 (by decide) (by decide) dL_ambiguous_9 ?_
  refine k_goto h_o 21 dL_ambiguous_10 (by decide) ?_
  refine k_iconst h_o dL_ambiguous_21 ?_
  exact k_iret h_o hr rfl (⟨_, rfl, Or.inl ⟨rfl, z1_o, ⟨e0, e1⟩, kset_eq, ((hexX.sub kPk_P7).trans (kEx.kset (Or.inl (by decide)))), (hsuX.ox (kEx.kset (by show 17 ≤ 17 ∧ 17 ≤ 44; decide)))⟩⟩) (by omega) (by omega) dL_ambiguous_22

set_option maxHeartbeats 4000000 in
set_option maxRecDepth 100000 in
theorem c_L_ambiguousAt {E_o : kE} {l_o : Launch} (hl0 : l_o.stackTraces = false) {w_o : kW} {ad : Nat → Nat} {nr : Nat} {g_o : Nat → Nat → Int} {T_o : Nat} {lts : Nat → Nat → Int} {cs : Nat → Int} {acs : Nat → Nat → Int} {ams : Nat → Int} {rel fnd : Int} {Ns : Nat → Nat → Nat} {K_o L_o p_o : Int} {aO : Nat} {fO : Nat → Int} (hst : kSu w_o ad nr g_o T_o lts cs acs ams rel fnd Ns) (hK : -2147483648 ≤ K_o ∧ K_o < 2147483648) (hL : -2147483648 ≤ L_o ∧ L_o < 2147483648) (hp : -2147483648 ≤ p_o ∧ p_o < 2147483648) (hO : w_o 17 = some (aO, al 1 fO)) : kMN E_o l_o yL_ambiguousAt (.codeWith yL_ambiguousAt cL_ambiguousAt 6 (some .int) [(0, 12, 15, 13), (0, 12, 19, 21)] :: kAL) { frames := 8, cells := 2, slots := 12, locals := 172 } 2 12 [.ref (ad 0), .int (iI K_o), .int (iI L_o), .int (iI p_o), .ref aO] w_o (pI (fun k_o w2_o => (0 = k_o ∧ ∃ z_o : Int, (((1 ≤ K_o ∧ K_o ≤ 3) ∧ 1 ≤ L_o ∧ L_o ≤ 4) ∧ ∃ c_o n_o : Nat, m_ar g_o nr K_o L_o c_o n_o ∧ (1 ≤ c_o ∧ c_o ≤ 4) ∧ (0 ≤ p_o ∧ p_o < (c_o : Int)) ∧ m_rw K_o c_o n_o p_o.toNat = z_o) ∧ w2_o 17 = some (aO, al 1 (kup fO 0 (m_w z_o))) ∧ kEx w_o w2_o kP7 ∧ kSu w2_o ad nr g_o T_o lts cs acs ams rel fnd Ns) ∨ (1 = k_o ∧ ¬ ((1 ≤ K_o ∧ K_o ≤ 3) ∧ 1 ≤ L_o ∧ L_o ≤ 4) ∧ w2_o 17 = some (aO, al 1 fO) ∧ kEx w_o w2_o kP7 ∧ kSu w2_o ad nr g_o T_o lts cs acs ams rel fnd Ns) ∨ (2 = k_o ∧ (((1 ≤ K_o ∧ K_o ≤ 3) ∧ 1 ≤ L_o ∧ L_o ≤ 4) ∧ m_an g_o nr K_o L_o) ∧ w2_o 17 = some (aO, al 1 fO) ∧ kEx w_o w2_o kP7 ∧ kSu w2_o ad nr g_o T_o lts cs acs ams rel fnd Ns) ∨ (2 = k_o ∧ (((1 ≤ K_o ∧ K_o ≤ 3) ∧ 1 ≤ L_o ∧ L_o ≤ 4) ∧ ∃ c_o n_o : Nat, m_ar g_o nr K_o L_o c_o n_o ∧ ¬ (0 ≤ p_o ∧ p_o < (c_o : Int))) ∧ w2_o 17 = some (aO, al 1 fO) ∧ kEx w_o w2_o kP7 ∧ kSu w2_o ad nr g_o T_o lts cs acs ams rel fnd Ns))) := by
  refine kMN_of hl0 (by decide +kernel) (Nat.le_of_ble_eq_true rfl) ?_
  intro X_o hXl h_o hr htab hNc
  subst hXl
  show kG E_o X_o 6 0 0 w_o 0 [(0, .ref (ad 0)), (1, .int (iI K_o)), (2, .int (iI L_o)), (3, .int (iI p_o)), (4, .ref aO)] []
  refine k_aload h_o 4 dL_ambiguousAt_0 rfl ?_
  refine k_iconst h_o dL_ambiguousAt_2 ?_
  refine k_aload_n h_o 0 dL_ambiguousAt_3 rfl rfl ?_
  refine k_iload_n h_o 1 dL_ambiguousAt_4 rfl rfl ?_
  refine k_iload_n h_o 2 dL_ambiguousAt_5 rfl rfl ?_
  refine k_iload_n h_o 3 dL_ambiguousAt_6 rfl rfl ?_
  refine k_callVX (As := [.int (iI K_o), .int (iI L_o), .int (iI p_o)]) (rest := [.int (iI 0), .ref aO]) h_o mX6_ambiguousAt kq_4_82 (c_X6_ambiguousAt hl0 hst hK hL hp) 0 hst.1.1 rfl rfl rfl (Nat.le_of_ble_eq_true rfl) ⟨rfl, rfl, ⟨(Nat.le_of_ble_eq_true rfl), (Nat.le_of_ble_eq_true rfl)⟩, ⟨(Nat.le_of_ble_eq_true rfl), (Nat.le_of_ble_eq_true rfl)⟩⟩ dL_ambiguousAt_7 ?_ (kcI fun z1_o w1_o hp => ?_)
  · intro Ex wx hx
    rcases hx with ⟨(⟨rfl, e1⟩ | ⟨rfl, e1, e2⟩) | ⟨rfl, e1, e2⟩, hsuX, hexX⟩
    · refine k_catch h_o htab [] ⟨0, 12, 15, 13⟩ [⟨0, 12, 19, 21⟩] rfl (fun z_o hz => by cases hz) rfl (by decide) kq_2_48 kq_2_66 (fun qx => ?_)
      refine k_astore (lv' := [(5, .ref qx), (0, .ref (ad 0)), (1, .int (iI K_o)), (2, .int (iI L_o)), (3, .int (iI p_o)), (4, .ref aO)]) h_o dL_ambiguousAt_15 (by decide) rfl ?_
      refine k_iconst h_o dL_ambiguousAt_17 ?_
      exact k_iret h_o hr rfl (⟨_, rfl, Or.inr (Or.inl ⟨rfl, e1, ((hexX 17 (by show ¬ (17 ≤ 16 ∨ 100 ≤ 17); omega)).trans hO), (hexX.sub kPk_P7), hsuX⟩)⟩) (by omega) (by omega) dL_ambiguousAt_18
    · refine k_catch h_o htab [⟨0, 12, 15, 13⟩] ⟨0, 12, 19, 21⟩ [] rfl (fun z_o hz => by rcases List.mem_cons.mp hz with rfl | hz; exact Or.inr ⟨(by decide), _, kq_2_48, hNc _ (List.mem_of_getElem? (i := 1) rfl)⟩; cases hz) rfl (by decide) kq_2_227 kq_2_239 (fun qx => ?_)
      refine k_astore (lv' := [(5, .ref qx), (0, .ref (ad 0)), (1, .int (iI K_o)), (2, .int (iI L_o)), (3, .int (iI p_o)), (4, .ref aO)]) h_o dL_ambiguousAt_19 (by decide) rfl ?_
      refine k_iconst h_o dL_ambiguousAt_21 ?_
      exact k_iret h_o hr rfl (⟨_, rfl, Or.inr (Or.inr (Or.inl ⟨rfl, ⟨e1, e2⟩, ((hexX 17 (by show ¬ (17 ≤ 16 ∨ 100 ≤ 17); omega)).trans hO), (hexX.sub kPk_P7), hsuX⟩))⟩) (by omega) (by omega) dL_ambiguousAt_22
    · refine k_catch h_o htab [⟨0, 12, 15, 13⟩] ⟨0, 12, 19, 21⟩ [] rfl (fun z_o hz => by rcases List.mem_cons.mp hz with rfl | hz; exact Or.inr ⟨(by decide), _, kq_2_48, hNc _ (List.mem_of_getElem? (i := 1) rfl)⟩; cases hz) rfl (by decide) kq_2_227 kq_2_239 (fun qx => ?_)
      refine k_astore (lv' := [(5, .ref qx), (0, .ref (ad 0)), (1, .int (iI K_o)), (2, .int (iI L_o)), (3, .int (iI p_o)), (4, .ref aO)]) h_o dL_ambiguousAt_19 (by decide) rfl ?_
      refine k_iconst h_o dL_ambiguousAt_21 ?_
      exact k_iret h_o hr rfl (⟨_, rfl, Or.inr (Or.inr (Or.inr ⟨rfl, ⟨e1, e2⟩, ((hexX 17 (by show ¬ (17 ≤ 16 ∨ 100 ≤ 17); omega)).trans hO), (hexX.sub kPk_P7), hsuX⟩))⟩) (by omega) (by omega) dL_ambiguousAt_22
  obtain ⟨e0, e1, hsuX, hexX⟩ := hp
  have hO1 := ((hexX 17 (by show ¬ (17 ≤ 16 ∨ 100 ≤ 17); omega)).trans hO)
  refine k_i2lW h_o dL_ambiguousAt_10 ?_
  refine k_last h_o 17 hO1 (by decide) (by decide) dL_ambiguousAt_11 ?_
  refine k_goto h_o 23 dL_ambiguousAt_12 (by decide) ?_
  refine k_iconst h_o dL_ambiguousAt_23 ?_
  exact k_iret h_o hr rfl (⟨_, rfl, Or.inl ⟨rfl, z1_o, ⟨e0, e1⟩, kset_eq, ((hexX.sub kPk_P7).trans (kEx.kset (Or.inl (by decide)))), (hsuX.ox (kEx.kset (by show 17 ≤ 17 ∧ 17 ≤ 44; decide)))⟩⟩) (by omega) (by omega) dL_ambiguousAt_24

set_option maxHeartbeats 4000000 in
set_option maxRecDepth 100000 in
theorem c_L_cleanShare {E_o : kE} {l_o : Launch} (hl0 : l_o.stackTraces = false) {w_o : kW} {ad : Nat → Nat} {nr : Nat} {g_o : Nat → Nat → Int} {T_o : Nat} {lts : Nat → Nat → Int} {cs : Nat → Int} {acs : Nat → Nat → Int} {ams : Nat → Int} {rel fnd : Int} {Ns : Nat → Nat → Nat}  {aO : Nat} {fO : Nat → UInt64} (hst : kSu w_o ad nr g_o T_o lts cs acs ams rel fnd Ns)  (hO : w_o 18 = some (aO, kDl 1 fO)) : kMN E_o l_o yL_cleanShare (.codeWith yL_cleanShare cL_cleanShare 3 (some .int) [(0, 8, 11, 99)] :: kAL) { frames := 7, cells := 1, slots := 6, locals := 172 } 1 6 [.ref (ad 0), .ref aO] w_o (pI (fun k_o w2_o => (0 = k_o ∧ T_o ≠ 0 ∧ w2_o 18 = some (aO, kDl 1 (kup fO 0 (FP.f2d (FP.fdiv (FP.i2f (iI (m_tc (fun t_o => t_o < T_o ∧ m_fv g_o nr (lts t_o) (cs t_o) (acs t_o) (ams t_o) = 45) 6))) (FP.i2f (iI (T_o : Int))))))) ∧ kEx w_o w2_o kP8 ∧ kSu w2_o ad nr g_o T_o lts cs acs ams rel fnd Ns) ∨ (1 = k_o ∧ T_o = 0 ∧ w2_o 18 = some (aO, kDl 1 fO) ∧ kEx w_o w2_o kP8 ∧ kSu w2_o ad nr g_o T_o lts cs acs ams rel fnd Ns))) := by
  refine kMN_of hl0 (by decide +kernel) (Nat.le_of_ble_eq_true rfl) ?_
  intro X_o hXl h_o hr htab hNc
  subst hXl
  show kG E_o X_o 3 0 0 w_o 0 [(0, .ref (ad 0)), (1, .ref aO)] []
  refine k_aload_n h_o 1 dL_cleanShare_0 rfl rfl ?_
  refine k_iconst h_o dL_cleanShare_1 ?_
  refine k_aload_n h_o 0 dL_cleanShare_2 rfl rfl ?_
  refine k_callVX (As := []) (rest := [.int (iI 0), .ref aO]) h_o mX6_cleanShare kq_4_103 (c_X6_cleanShare hl0 hst ) 0 hst.1.1 rfl rfl rfl (Nat.le_of_ble_eq_true rfl) ⟨rfl, rfl, ⟨(Nat.le_of_ble_eq_true rfl), (Nat.le_of_ble_eq_true rfl)⟩, ⟨(Nat.le_of_ble_eq_true rfl), (Nat.le_of_ble_eq_true rfl)⟩⟩ dL_cleanShare_3 ?_ (kcF fun z1_o w1_o hp => ?_)
  · intro Ex wx hx
    obtain ⟨⟨rfl, e1⟩, hsuX, hexX⟩ := hx
    refine k_catch h_o htab [] ⟨0, 8, 11, 99⟩ [] rfl (fun z_o hz => by cases hz) rfl (by decide) kq_4_89 kq_4_101 (fun qx => ?_)
    refine k_astore_n (lv' := [(2, .ref qx), (0, .ref (ad 0)), (1, .ref aO)]) h_o dL_cleanShare_11 rfl (by decide) rfl ?_
    refine k_iconst h_o dL_cleanShare_12 ?_
    exact k_iret h_o hr rfl (⟨_, rfl, Or.inr ⟨rfl, e1, ((hexX 18 (by show ¬ (18 ≤ 16 ∨ 100 ≤ 18); omega)).trans hO), (hexX.sub kPk_P8), hsuX⟩⟩) (by omega) (by omega) dL_cleanShare_13
  obtain ⟨rfl, e1, hsuX, hexX⟩ := hp
  have hO1 := ((hexX 18 (by show ¬ (18 ≤ 16 ∨ 100 ≤ 18); omega)).trans hO)
  refine k_f2d h_o (m_nf2 (by have := m_tc_rg (P := (fun t_o => t_o < T_o ∧ m_fv g_o nr (lts t_o) (cs t_o) (acs t_o) (ams t_o) = 45)) 6; omega) (by have := hst.T6; omega)) dL_cleanShare_6 ?_
  refine k_dast h_o 18 hO1 (by decide) (by decide) dL_cleanShare_7 ?_
  refine k_goto h_o 14 dL_cleanShare_8 (by decide) ?_
  refine k_iconst h_o dL_cleanShare_14 ?_
  exact k_iret h_o hr rfl (⟨_, rfl, Or.inl ⟨rfl, e1, kset_eq, ((hexX.sub kPk_P8).trans (kEx.kset (Or.inr (Or.inl rfl)))), (hsuX.ox (kEx.kset (by show 17 ≤ 18 ∧ 18 ≤ 44; decide)))⟩⟩) (by omega) (by omega) dL_cleanShare_15

set_option maxHeartbeats 4000000 in
set_option maxRecDepth 100000 in
theorem c_L_meanTrees {E_o : kE} {l_o : Launch} (hl0 : l_o.stackTraces = false) {w_o : kW} {ad : Nat → Nat} {nr : Nat} {g_o : Nat → Nat → Int} {T_o : Nat} {lts : Nat → Nat → Int} {cs : Nat → Int} {acs : Nat → Nat → Int} {ams : Nat → Int} {rel fnd : Int} {Ns : Nat → Nat → Nat}  {aO : Nat} {fO : Nat → UInt64} (hst : kSu w_o ad nr g_o T_o lts cs acs ams rel fnd Ns)  (hO : w_o 18 = some (aO, kDl 1 fO)) : kMN E_o l_o yL_meanTrees (.codeWith yL_meanTrees cL_meanTrees 3 (some .int) [(0, 7, 10, 99)] :: kAL) { frames := 7, cells := 1, slots := 6, locals := 106 } 1 6 [.ref (ad 0), .ref aO] w_o (pI (fun k_o w2_o => (0 = k_o ∧ T_o ≠ 0 ∧ w2_o 18 = some (aO, kDl 1 (kup fO 0 (FP.ddiv (FP.i2d (iI (m_tf (fun t_o => t_o < T_o) (fun t_o => ((m_TT g_o nr (lts t_o) 10 0 (cs t_o - 1) : Nat) : Int)) 6))) (FP.i2d (iI (T_o : Int)))))) ∧ kEx w_o w2_o kP8 ∧ kSu w2_o ad nr g_o T_o lts cs acs ams rel fnd Ns) ∨ (1 = k_o ∧ T_o = 0 ∧ w2_o 18 = some (aO, kDl 1 fO) ∧ kEx w_o w2_o kP8 ∧ kSu w2_o ad nr g_o T_o lts cs acs ams rel fnd Ns))) := by
  refine kMN_of hl0 (by decide +kernel) (Nat.le_of_ble_eq_true rfl) ?_
  intro X_o hXl h_o hr htab hNc
  subst hXl
  show kG E_o X_o 3 0 0 w_o 0 [(0, .ref (ad 0)), (1, .ref aO)] []
  refine k_aload_n h_o 1 dL_meanTrees_0 rfl rfl ?_
  refine k_iconst h_o dL_meanTrees_1 ?_
  refine k_aload_n h_o 0 dL_meanTrees_2 rfl rfl ?_
  refine k_callVX (As := []) (rest := [.int (iI 0), .ref aO]) h_o mX6_meanTrees kq_4_115 (c_X6_meanTrees hl0 hst ) 0 hst.1.1 rfl rfl rfl (Nat.le_of_ble_eq_true rfl) ⟨rfl, rfl, ⟨(Nat.le_of_ble_eq_true rfl), (Nat.le_of_ble_eq_true rfl)⟩, ⟨(Nat.le_of_ble_eq_true rfl), (Nat.le_of_ble_eq_true rfl)⟩⟩ dL_meanTrees_3 ?_ (kcD fun z1_o w1_o hp => ?_)
  · intro Ex wx hx
    obtain ⟨⟨rfl, e1⟩, hsuX, hexX⟩ := hx
    refine k_catch h_o htab [] ⟨0, 7, 10, 99⟩ [] rfl (fun z_o hz => by cases hz) rfl (by decide) kq_4_89 kq_4_101 (fun qx => ?_)
    refine k_astore_n (lv' := [(2, .ref qx), (0, .ref (ad 0)), (1, .ref aO)]) h_o dL_meanTrees_10 rfl (by decide) rfl ?_
    refine k_iconst h_o dL_meanTrees_11 ?_
    exact k_iret h_o hr rfl (⟨_, rfl, Or.inr ⟨rfl, e1, ((hexX 18 (by show ¬ (18 ≤ 16 ∨ 100 ≤ 18); omega)).trans hO), (hexX.sub kPk_P8), hsuX⟩⟩) (by omega) (by omega) dL_meanTrees_12
  obtain ⟨rfl, e1, hsuX, hexX⟩ := hp
  have hO1 := ((hexX 18 (by show ¬ (18 ≤ 16 ∨ 100 ≤ 18); omega)).trans hO)
  refine k_dast h_o 18 hO1 (by decide) (by decide) dL_meanTrees_6 ?_
  refine k_goto h_o 13 dL_meanTrees_7 (by decide) ?_
  refine k_iconst h_o dL_meanTrees_13 ?_
  exact k_iret h_o hr rfl (⟨_, rfl, Or.inl ⟨rfl, e1, kset_eq, ((hexX.sub kPk_P8).trans (kEx.kset (Or.inr (Or.inl rfl)))), (hsuX.ox (kEx.kset (by show 17 ≤ 18 ∧ 18 ≤ 44; decide)))⟩⟩) (by omega) (by omega) dL_meanTrees_14
