set_option maxHeartbeats 400000 in
set_option maxRecDepth 100000 in
theorem c_X6_findAmbiguousRow {E_o : kE} {l_o : Launch} (hl0 : l_o.stackTraces = false) {w_o : kW} {ad : Nat → Nat} {nr : Nat} {g_o : Nat → Nat → Int} {T_o : Nat} {lts : Nat → Nat → Int} {cs : Nat → Int} {acs : Nat → Nat → Int} {ams : Nat → Int} {rel fnd : Int} {Ns : Nat → Nat → Nat} {K_o c_o : Int} (hst : kSu w_o ad nr g_o T_o lts cs acs ams rel fnd Ns) (hK : 1 ≤ K_o ∧ K_o ≤ 3) (hc_o : 1 ≤ c_o ∧ c_o ≤ 4) : kM E_o l_o yX6_findAmbiguousRow (.code yX6_findAmbiguousRow cX6_findAmbiguousRow 4 (some .boolean) :: kAL) { frames := 4, cells := 0, slots := 0, locals := 102 } 0 0 [.ref (ad 0), .int (iI K_o), .int (iI c_o)] w_o (pI (fun z_o w2_o => ((1 = z_o ∧ ∃ n_o : Nat, n_o < m_pw K_o c_o.toNat ∧ m_am g_o nr K_o c_o.toNat n_o ∧ (∀ m_o, m_o < n_o → ¬ m_am g_o nr K_o c_o.toNat m_o) ∧ ∃ (l8 : Nat → Int) (N8 : Nat → Nat), kSp w2_o 4 (ad 4) (ad 5) (ad 6) l8 N8 c_o ∧ kLt l8 ∧ ∀ p_o : Nat, p_o < c_o.toNat → l8 p_o = m_rw K_o c_o.toNat n_o p_o) ∨ (0 = z_o ∧ ∀ m_o, m_o < m_pw K_o c_o.toNat → ¬ m_am g_o nr K_o c_o.toNat m_o)) ∧ kSv w_o w2_o ad nr g_o T_o lts cs acs ams rel fnd Ns)) := by
  refine kM_of hl0 (by decide +kernel) (Nat.le_of_ble_eq_true rfl) ?_
  intro X_o hXl h_o hr hin
  subst hXl
  obtain ⟨⟨hpo, hgr, hwf, hts, hsc, hlo, hto, htx, htj⟩, hT⟩ := id hst
  obtain ⟨ls, Nz, cz, hs4, hs5, hs6⟩ := hsc
  obtain ⟨O_o, sk, hly, hOi⟩ := hlo
  obtain ⟨ht15, kn, ht16⟩ := hto
  have hnr := hgr.2.2.2
  have hT6 := hts.2
  have hpw := m_pw_le hK (show c_o.toNat ≤ 4 by omega)
  show kG E_o X_o 4 0 0 w_o 0 [(0, .ref (ad 0)), (1, .int (iI K_o)), (2, .int (iI c_o))] []
  refine k_aload_n h_o 0 dX6_findAmbiguousRow_0 rfl rfl ?_
  refine k_get h_o 0 kf_X6_25 hpo rfl dX6_findAmbiguousRow_1 ?_
  refine k_iload_n h_o 2 dX6_findAmbiguousRow_4 rfl rfl ?_
  refine k_callV (As := [.int (iI c_o)]) (rest := []) h_o mX3_startRow kq_4_70 (c_X3_startRow hl0 hs4 (by omega)) 4 hs4.1 rfl rfl rfl (Nat.le_of_ble_eq_true rfl) ⟨rfl, rfl, ⟨(Nat.le_of_ble_eq_true rfl), (Nat.le_of_ble_eq_true rfl)⟩, ⟨(Nat.le_of_ble_eq_true rfl), (Nat.le_of_ble_eq_true rfl)⟩⟩ dX6_findAmbiguousRow_5 (kcV fun w5_o hp => ?_)
  subst hp
  refine k_iconst h_o dX6_findAmbiguousRow_8 ?_
  refine k_istore_n (lv' := [(3, .int (iI 0)), (0, .ref (ad 0)), (1, .int (iI K_o)), (2, .int (iI c_o))]) h_o dX6_findAmbiguousRow_9 rfl (by decide) rfl ?_
  have L10 : ∀ (mm : Nat) (y_o : Int) (w8_o : kW) (l8 : Nat → Int) (N8 : Nat → Nat), (0 ≤ y_o ∧ y_o.toNat < m_pw K_o c_o.toNat) → (kSu w8_o ad nr g_o T_o lts cs acs ams rel fnd Ns) → (kSp w8_o 4 (ad 4) (ad 5) (ad 6) l8 N8 c_o) → (kLt l8) → (∀ x_o, N8 x_o ≤ 1000) → (kEx w_o w8_o kPk) → (∀ p_o : Nat, p_o < c_o.toNat → l8 p_o = m_rw K_o c_o.toNat y_o.toNat p_o) → (∀ m_o, m_o < y_o.toNat → ¬ m_am g_o nr K_o c_o.toNat m_o) → (81 - y_o < (mm : Int)) → kG E_o X_o 4 0 0 w8_o 10 [(0, .ref (ad 0)), (1, .int (iI K_o)), (2, .int (iI c_o)), (3, .int (iI y_o))] [] := by
    intro mm
    induction mm with
    | zero =>
      intro y_o w8_o l8 N8 hy hs8 hsp8 hl8 hN8 hx8 hrw8 hno hm_o
      exfalso; omega
    | succ mm ih10 =>
      intro y_o w8_o l8 N8 hy hs8 hsp8 hl8 hN8 hx8 hrw8 hno hm_o
      refine k_iload_n h_o 3 dX6_findAmbiguousRow_10 rfl rfl ?_
      refine k_bipush h_o dX6_findAmbiguousRow_11 (by decide) ?_
      refine k_icmp_ge h_o 60 (by omega) (by decide) dX6_findAmbiguousRow_13 (by decide) (fun h13_o => ?_) (fun h13_o => ?_)
      · exfalso; omega
      · refine k_aload_n h_o 0 dX6_findAmbiguousRow_16 rfl rfl ?_
        refine k_get h_o 0 kf_X6_25 hs8.1.1 rfl dX6_findAmbiguousRow_17 ?_
        refine k_aload_n h_o 0 dX6_findAmbiguousRow_20 rfl rfl ?_
        refine k_get h_o 0 kf_X6_12 hs8.1.1 rfl dX6_findAmbiguousRow_21 ?_
        refine k_callV (As := [.ref (ad 1)]) (rest := []) h_o mX3_findAll kq_1_227 (c_X3_findAll hl0 hsp8 hl8 hN8 hs8.1.2.1 hwf (by omega) (by omega)) 4 hsp8.1 rfl rfl rfl (Nat.le_of_ble_eq_true rfl) ⟨rfl, rfl, ⟨(Nat.le_of_ble_eq_true rfl), (Nat.le_of_ble_eq_true rfl)⟩, ⟨(Nat.le_of_ble_eq_true rfl), (Nat.le_of_ble_eq_true rfl)⟩⟩ dX6_findAmbiguousRow_24 (kcI fun z24_o w24_o hp => ?_)
        obtain ⟨rfl, N2, rfl, hN2, hT2⟩ := hp
        refine k_pop h_o dX6_findAmbiguousRow_27 rfl ?_
        refine k_aload_n h_o 0 dX6_findAmbiguousRow_28 rfl rfl ?_
        refine k_get h_o 0 kf_X6_25 ((kset_ne (by decide)).trans hs8.1.1) rfl dX6_findAmbiguousRow_29 ?_
        refine k_callV (As := []) (rest := []) h_o mX3_treesOfAll kq_1_173 (c_X3_treesOfAll hl0 ⟨((kset_ne (by decide)).trans hsp8.1), ((kset_ne (by decide)).trans hsp8.2.1), kset_eq⟩ hl8 hN2 (by omega)) 4 ((kset_ne (by decide)).trans hsp8.1) rfl rfl rfl (Nat.le_of_ble_eq_true rfl) ⟨rfl, rfl, ⟨(Nat.le_of_ble_eq_true rfl), (Nat.le_of_ble_eq_true rfl)⟩, ⟨(Nat.le_of_ble_eq_true rfl), (Nat.le_of_ble_eq_true rfl)⟩⟩ dX6_findAmbiguousRow_32 (kcI fun z32_o w32_o hp => ?_)
        obtain ⟨rfl, rfl⟩ := hp
        refine k_top (z' := ((m_TT g_o nr (m_rw K_o c_o.toNat y_o.toNat) 10 0 (((c_o.toNat : Nat) : Int) - 1) : Nat) : Int)) (by rw [kTr_all hT2 (by omega), m_TT_row (row' := m_rw K_o c_o.toNat y_o.toNat) (by omega) (fun p_o e1 e2 => hrw8 p_o.toNat (by omega)), show ((c_o.toNat : Nat) : Int) = c_o by omega]) ?_
        have hnr2 := m_nx_rw (f := l8) hK (show 1 ≤ c_o.toNat ∧ c_o.toNat ≤ 4 by omega) hy.2 hrw8
        refine k_iconst h_o dX6_findAmbiguousRow_35 ?_
        refine k_icmp_le h_o 41 (m_natrg m_TT_le) (by decide) dX6_findAmbiguousRow_36 (by decide) (fun h36_o => ?_) (fun h36_o => ?_)
        · have hnam : ¬ m_am g_o nr K_o c_o.toNat y_o.toNat := by unfold m_am; omega
          refine k_aload_n h_o 0 dX6_findAmbiguousRow_41 rfl rfl ?_
          refine k_get h_o 0 kf_X6_25 ((kset_ne (by decide)).trans hs8.1.1) rfl dX6_findAmbiguousRow_42 ?_
          refine k_iload_n h_o 1 dX6_findAmbiguousRow_45 rfl rfl ?_
          refine k_callV (As := [.int (iI K_o)]) (rest := []) h_o mX3_nextRow kq_4_75 (c_X3_nextRow hl0 ⟨((kset_ne (by decide)).trans hsp8.1), ((kset_ne (by decide)).trans hsp8.2.1), kset_eq⟩ hl8 (by omega) hK) 4 ((kset_ne (by decide)).trans hsp8.1) rfl rfl rfl (Nat.le_of_ble_eq_true rfl) ⟨rfl, rfl, ⟨(Nat.le_of_ble_eq_true rfl), (Nat.le_of_ble_eq_true rfl)⟩, ⟨(Nat.le_of_ble_eq_true rfl), (Nat.le_of_ble_eq_true rfl)⟩⟩ dX6_findAmbiguousRow_46 (kcI fun z46_o w46_o hp => ?_)
          obtain ⟨rfl, rfl⟩ := hp
          refine k_ifBne h_o 54 dX6_findAmbiguousRow_49 (by decide) (fun h49_o => ?_) (fun h49_o => ?_)
          · refine k_iinc (lv' := [(3, .int (iI (y_o + 1))), (0, .ref (ad 0)), (1, .int (iI K_o)), (2, .int (iI c_o))]) h_o 3 dX6_findAmbiguousRow_54 rfl (by decide) rfl ?_
            refine k_goto h_o 10 dX6_findAmbiguousRow_57 (by decide) ?_
            refine k_sub (lv' := [(0, .ref (ad 0)), (1, .int (iI K_o)), (2, .int (iI c_o)), (3, .int (iI (y_o + 1)))]) [1, 2, 3, 0] rfl ?_
            exact ih10 (y_o + 1) (kset (kset w8_o 6 (ad 6) (ai 500 (fun x_o => ((N2 x_o : Nat) : Int)))) 5 (ad 5) (ai 10 ((m_nx K_o c_o.toNat l8).2))) ((m_nx K_o c_o.toNat l8).2) N2 (by have := hnr2.1.mp h49_o; omega) (⟨hs8.1.sc ⟨((kset_ne (by decide)).trans ((kset_ne (by decide)).trans hsp8.1)), kset_eq, ((kset_ne (by decide)).trans kset_eq)⟩ (m_nx_lt hK.2 hl8) hN2 (fun x_o hx => ((kset_ne (by omega)).trans ((kset_ne (by omega)).trans rfl))), hs8.2⟩) (⟨((kset_ne (by decide)).trans ((kset_ne (by decide)).trans hsp8.1)), kset_eq, ((kset_ne (by decide)).trans kset_eq)⟩) (m_nx_lt hK.2 hl8) hN2 (hx8.trans (fun x_o hx => ((kset_ne (by omega)).trans ((kset_ne (by omega)).trans rfl)))) (fun p_o hp => by rw [show (y_o + 1).toNat = y_o.toNat + 1 by omega]; exact hnr2.2 (hnr2.1.mp h49_o) p_o hp) (fun m_o hm_o => by by_cases e_o : m_o = y_o.toNat; rw [e_o]; exact hnam; exact hno m_o (by omega)) (by omega)
          · refine k_iconst h_o dX6_findAmbiguousRow_52 ?_
            exact k_iret h_o hr rfl (⟨_, rfl, Or.inr ⟨rfl, fun m_o hm_o => by by_cases e_o : m_o < y_o.toNat; exact hno m_o e_o; rw [show m_o = y_o.toNat from by have := mt hnr2.1.mpr h49_o; omega]; exact hnam⟩, ⟨hs8.1.sc ⟨((kset_ne (by decide)).trans ((kset_ne (by decide)).trans hsp8.1)), kset_eq, ((kset_ne (by decide)).trans kset_eq)⟩ (m_nx_lt hK.2 hl8) hN2 (fun x_o hx => ((kset_ne (by omega)).trans ((kset_ne (by omega)).trans rfl))), hs8.2⟩, (hx8.trans (fun x_o hx => ((kset_ne (by omega)).trans ((kset_ne (by omega)).trans rfl))))⟩) (by omega) (by omega) dX6_findAmbiguousRow_53
        · refine k_iconst h_o dX6_findAmbiguousRow_39 ?_
          exact k_iret h_o hr rfl (⟨_, rfl, Or.inl ⟨rfl, y_o.toNat, hy.2, (by unfold m_am; omega), hno, l8, N2, ⟨((kset_ne (by decide)).trans hsp8.1), ((kset_ne (by decide)).trans hsp8.2.1), kset_eq⟩, hl8, hrw8⟩, ⟨hs8.1.sc ⟨((kset_ne (by decide)).trans hsp8.1), ((kset_ne (by decide)).trans hsp8.2.1), kset_eq⟩ hl8 hN2 (fun x_o hx => ((kset_ne (by omega)).trans rfl)), hs8.2⟩, (hx8.trans (fun x_o hx => ((kset_ne (by omega)).trans rfl)))⟩) (by omega) (by omega) dX6_findAmbiguousRow_40
  refine k_sub (lv' := [(0, .ref (ad 0)), (1, .int (iI K_o)), (2, .int (iI c_o)), (3, .int (iI 0))]) [1, 2, 3, 0] rfl ?_
  exact L10 ((81 - 0 : Int).toNat + 1) 0 (kset (kset w_o 4 (ad 4) (ob 5 [.ref (ad 5), .ref (ad 6), .int (iI c_o)])) 5 (ad 5) (ai 10 (m_fl ls 0 ((10 : Nat) : Int)))) (m_fl ls 0 ((10 : Nat) : Int)) Nz (by omega) (⟨hst.1.sc ⟨((kset_ne (by decide)).trans kset_eq), kset_eq, ((kset_ne (by decide)).trans ((kset_ne (by decide)).trans hs4.2.2))⟩ (kLt_fl hs5 (by decide)) hs6 (fun x_o hx => ((kset_ne (by omega)).trans ((kset_ne (by omega)).trans rfl))), hst.2⟩) (⟨((kset_ne (by decide)).trans kset_eq), kset_eq, ((kset_ne (by decide)).trans ((kset_ne (by decide)).trans hs4.2.2))⟩) (kLt_fl hs5 (by decide)) hs6 (fun x_o hx => ((kset_ne (by omega)).trans ((kset_ne (by omega)).trans rfl))) (fun p_o hp => by rw [show (0 : Int).toNat = 0 from rfl, m_rw_0 hK.1 hp]; unfold m_fl; rw [if_pos (by omega)]) (fun m_o hm_o => by have : m_o < 0 := hm_o; omega) (by omega)

set_option maxHeartbeats 400000 in
set_option maxRecDepth 100000 in
theorem c_X6_lengthOfAmbiguousRow {E_o : kE} {l_o : Launch} (hl0 : l_o.stackTraces = false) {w_o : kW} {ad : Nat → Nat} {nr : Nat} {g_o : Nat → Nat → Int} {T_o : Nat} {lts : Nat → Nat → Int} {cs : Nat → Int} {acs : Nat → Nat → Int} {ams : Nat → Int} {rel fnd : Int} {Ns : Nat → Nat → Nat} {K_o L_o : Int} (hst : kSu w_o ad nr g_o T_o lts cs acs ams rel fnd Ns) (hK : -2147483648 ≤ K_o ∧ K_o < 2147483648) (hL : -2147483648 ≤ L_o ∧ L_o < 2147483648) : kMX E_o l_o yX6_lengthOfAmbiguousRow (.code yX6_lengthOfAmbiguousRow cX6_lengthOfAmbiguousRow 4 (some .int) :: kAL) { frames := 6, cells := 1, slots := 6, locals := 125 } 1 6 [.ref (ad 0), .int (iI K_o), .int (iI L_o)] w_o (pI (fun c_o w2_o => ((1 ≤ K_o ∧ K_o ≤ 3) ∧ 1 ≤ L_o ∧ L_o ≤ 4) ∧ (∃ n_o : Nat, m_ar g_o nr K_o L_o c_o.toNat n_o ∧ (1 ≤ c_o ∧ c_o ≤ 4) ∧ ∃ (l8 : Nat → Int) (N8 : Nat → Nat), kSp w2_o 4 (ad 4) (ad 5) (ad 6) l8 N8 c_o ∧ kLt l8 ∧ ∀ p_o : Nat, p_o < c_o.toNat → l8 p_o = m_rw K_o c_o.toNat n_o p_o) ∧ kSv w_o w2_o ad nr g_o T_o lts cs acs ams rel fnd Ns)) (fun Ex w2_o => ((Ex = "java/lang/IllegalArgumentException" ∧ ¬ ((1 ≤ K_o ∧ K_o ≤ 3) ∧ 1 ≤ L_o ∧ L_o ≤ 4)) ∨ (Ex = "java/util/NoSuchElementException" ∧ ((1 ≤ K_o ∧ K_o ≤ 3) ∧ 1 ≤ L_o ∧ L_o ≤ 4) ∧ m_an g_o nr K_o L_o)) ∧ kSv w_o w2_o ad nr g_o T_o lts cs acs ams rel fnd Ns) := by
  refine kMX_of hl0 (by decide +kernel) (Nat.le_of_ble_eq_true rfl) ?_
  intro X_o hXl h_o hr
  subst hXl
  obtain ⟨⟨hpo, hgr, hwf, hts, hsc, hlo, hto, htx, htj⟩, hT⟩ := id hst
  obtain ⟨ls, Nz, cz, hs4, hs5, hs6⟩ := hsc
  obtain ⟨O_o, sk, hly, hOi⟩ := hlo
  obtain ⟨ht15, kn, ht16⟩ := hto
  have hnr := hgr.2.2.2
  have hT6 := hts.2
  show kG E_o X_o 4 0 0 w_o 0 [(0, .ref (ad 0)), (1, .int (iI K_o)), (2, .int (iI L_o))] []
  refine k_iload_n h_o 1 dX6_lengthOfAmbiguousRow_0 rfl rfl ?_
  refine k_iconst h_o dX6_lengthOfAmbiguousRow_1 ?_
  refine k_iconst h_o dX6_lengthOfAmbiguousRow_2 ?_
  refine k_callS (As := [.int (iI K_o), .int (iI 1), .int (iI 3)]) (rest := []) h_o mX6_isWithin kq_3_19 (c_X6_isWithin hl0 (by omega) (by decide) (by decide)) rfl rfl (Nat.le_of_ble_eq_true rfl) ⟨rfl, rfl, ⟨(Nat.le_of_ble_eq_true rfl), (Nat.le_of_ble_eq_true rfl)⟩, ⟨(Nat.le_of_ble_eq_true rfl), (Nat.le_of_ble_eq_true rfl)⟩⟩ dX6_lengthOfAmbiguousRow_3 (kcI fun z3_o w3_o hp => ?_)
  obtain ⟨rfl, rfl⟩ := hp
  refine k_ifBeq h_o 18 dX6_lengthOfAmbiguousRow_6 (by decide) (fun h6_o => ?_) (fun h6_o => ?_)
  · exact k_throw0 (names := ["java/lang/RuntimeException", "java/lang/Exception"]) h_o hr (by decide +kernel) (by decide +kernel) kq_2_64 kq_1_10 kx1_IAE kx2_IAE kx3_IAE dX6_lengthOfAmbiguousRow_18 dX6_lengthOfAmbiguousRow_21 dX6_lengthOfAmbiguousRow_22 dX6_lengthOfAmbiguousRow_25 ⟨by decide, by decide, by decide, by decide⟩ (⟨Or.inl ⟨rfl, (by omega)⟩, hst, kEx.rfl⟩) (by decide) (by decide)
  · refine k_iload_n h_o 2 dX6_lengthOfAmbiguousRow_9 rfl rfl ?_
    refine k_iconst h_o dX6_lengthOfAmbiguousRow_10 ?_
    refine k_iconst h_o dX6_lengthOfAmbiguousRow_11 ?_
    refine k_callS (As := [.int (iI L_o), .int (iI 1), .int (iI 4)]) (rest := []) h_o mX6_isWithin kq_3_19 (c_X6_isWithin hl0 (by omega) (by decide) (by decide)) rfl rfl (Nat.le_of_ble_eq_true rfl) ⟨rfl, rfl, ⟨(Nat.le_of_ble_eq_true rfl), (Nat.le_of_ble_eq_true rfl)⟩, ⟨(Nat.le_of_ble_eq_true rfl), (Nat.le_of_ble_eq_true rfl)⟩⟩ dX6_lengthOfAmbiguousRow_12 (kcI fun z12_o w12_o hp => ?_)
    obtain ⟨rfl, rfl⟩ := hp
    refine k_ifBne h_o 26 dX6_lengthOfAmbiguousRow_15 (by decide) (fun h15_o => ?_) (fun h15_o => ?_)
    · refine k_iconst h_o dX6_lengthOfAmbiguousRow_26 ?_
      refine k_istore_n (lv' := [(3, .int (iI 1)), (0, .ref (ad 0)), (1, .int (iI K_o)), (2, .int (iI L_o))]) h_o dX6_lengthOfAmbiguousRow_27 rfl (by decide) rfl ?_
      have L28 : ∀ (mm : Nat) (v_o : Int) (w8_o : kW), (1 ≤ v_o ∧ v_o ≤ L_o + 1) → (kSu w8_o ad nr g_o T_o lts cs acs ams rel fnd Ns) → (kEx w_o w8_o kPk) → (∀ c_o m_o : Nat, 1 ≤ c_o → (c_o : Int) < v_o → m_o < m_pw K_o c_o → ¬ m_am g_o nr K_o c_o m_o) → (L_o + 1 - v_o < (mm : Int)) → kG E_o X_o 4 0 0 w8_o 28 [(0, .ref (ad 0)), (1, .int (iI K_o)), (2, .int (iI L_o)), (3, .int (iI v_o))] [] := by
        intro mm
        induction mm with
        | zero =>
          intro v_o w8_o hv hs8 hx8 hnc hm_o
          exfalso; omega
        | succ mm ih28 =>
          intro v_o w8_o hv hs8 hx8 hnc hm_o
          refine k_iload_n h_o 3 dX6_lengthOfAmbiguousRow_28 rfl rfl ?_
          refine k_iload_n h_o 2 dX6_lengthOfAmbiguousRow_29 rfl rfl ?_
          refine k_icmp_gt h_o 50 (by omega) (by omega) dX6_lengthOfAmbiguousRow_30 (by decide) (fun h30_o => ?_) (fun h30_o => ?_)
          · exact k_throw0 (names := ["java/lang/RuntimeException", "java/lang/Exception"]) h_o hr (by decide +kernel) (by decide +kernel) kq_2_237 kq_1_13 kx1_NSE kx2_NSE kx3_NSE dX6_lengthOfAmbiguousRow_50 dX6_lengthOfAmbiguousRow_53 dX6_lengthOfAmbiguousRow_54 dX6_lengthOfAmbiguousRow_57 ⟨by decide, by decide, by decide, by decide⟩ (⟨Or.inr ⟨rfl, (by omega), (fun c_o m_o e1 e2 e3 => hnc c_o m_o e1 (by omega) e3)⟩, hs8, hx8⟩) (by decide) (by decide)
          · refine k_aload_n h_o 0 dX6_lengthOfAmbiguousRow_33 rfl rfl ?_
            refine k_iload_n h_o 1 dX6_lengthOfAmbiguousRow_34 rfl rfl ?_
            refine k_iload_n h_o 3 dX6_lengthOfAmbiguousRow_35 rfl rfl ?_
            refine k_callV (As := [.int (iI K_o), .int (iI v_o)]) (rest := []) h_o mX6_findAmbiguousRow kq_4_66 (c_X6_findAmbiguousRow hl0 hs8 (show 1 ≤ K_o ∧ K_o ≤ 3 by omega) (show 1 ≤ v_o ∧ v_o ≤ 4 by omega)) 0 hs8.1.1 rfl rfl rfl (Nat.le_of_ble_eq_true rfl) ⟨rfl, rfl, ⟨(Nat.le_of_ble_eq_true rfl), (Nat.le_of_ble_eq_true rfl)⟩, ⟨(Nat.le_of_ble_eq_true rfl), (Nat.le_of_ble_eq_true rfl)⟩⟩ dX6_lengthOfAmbiguousRow_36 (kcI fun z36_o wF hp => ?_)
            obtain ⟨hF, hsF, hxF⟩ := hp
            rcases hF with ⟨rfl, hF2⟩ | hF2
            · refine k_ifeq h_o 44 (by decide) dX6_lengthOfAmbiguousRow_39 (by decide) (fun h39_o => ?_) (fun h39_o => ?_)
              · exfalso; omega
              · refine k_iload_n h_o 3 dX6_lengthOfAmbiguousRow_42 rfl rfl ?_
                exact k_iret h_o hr.ret rfl (⟨_, rfl, (by omega), (by obtain ⟨n_o, n1, n2, n3, n4⟩ := hF2; exact ⟨n_o, ⟨by omega, n1, n2, n3, fun c_o m_o e1 e2 e3 => hnc c_o m_o e1 (by omega) e3⟩, by omega, n4⟩), hsF, (hx8.trans hxF)⟩) (by omega) (by omega) dX6_lengthOfAmbiguousRow_43
            · have hF3 := hF2.1
              refine k_top (z' := 0) hF3.symm ?_
              refine k_ifeq h_o 44 (by decide) dX6_lengthOfAmbiguousRow_39 (by decide) (fun h39_o => ?_) (fun h39_o => ?_)
              · refine k_iinc (lv' := [(3, .int (iI (v_o + 1))), (0, .ref (ad 0)), (1, .int (iI K_o)), (2, .int (iI L_o))]) h_o 3 dX6_lengthOfAmbiguousRow_44 rfl (by decide) rfl ?_
                refine k_goto h_o 28 dX6_lengthOfAmbiguousRow_47 (by decide) ?_
                refine k_sub (lv' := [(0, .ref (ad 0)), (1, .int (iI K_o)), (2, .int (iI L_o)), (3, .int (iI (v_o + 1)))]) [1, 2, 3, 0] rfl ?_
                exact ih28 (v_o + 1) wF (by omega) hsF (hx8.trans hxF) (fun c_o m_o e1 e2 e3 => by by_cases e_o : (c_o : Int) < v_o; exact hnc c_o m_o e1 e_o e3; have ec : c_o = v_o.toNat := (by omega); subst ec; exact hF2.2 m_o e3) (by omega)
              · exfalso; omega
      refine k_sub (lv' := [(0, .ref (ad 0)), (1, .int (iI K_o)), (2, .int (iI L_o)), (3, .int (iI 1))]) [1, 2, 3, 0] rfl ?_
      exact L28 ((L_o + 1 - 1 : Int).toNat + 1) 1 w_o (by omega) hst kEx.rfl (fun c_o m_o e1 e2 e3 => by exfalso; omega) (by omega)
    · exact k_throw0 (names := ["java/lang/RuntimeException", "java/lang/Exception"]) h_o hr (by decide +kernel) (by decide +kernel) kq_2_64 kq_1_10 kx1_IAE kx2_IAE kx3_IAE dX6_lengthOfAmbiguousRow_18 dX6_lengthOfAmbiguousRow_21 dX6_lengthOfAmbiguousRow_22 dX6_lengthOfAmbiguousRow_25 ⟨by decide, by decide, by decide, by decide⟩ (⟨Or.inl ⟨rfl, (by omega)⟩, hst, kEx.rfl⟩) (by decide) (by decide)

set_option maxHeartbeats 400000 in
set_option maxRecDepth 100000 in
theorem c_X6_ambiguous {E_o : kE} {l_o : Launch} (hl0 : l_o.stackTraces = false) {w_o : kW} {ad : Nat → Nat} {nr : Nat} {g_o : Nat → Nat → Int} {T_o : Nat} {lts : Nat → Nat → Int} {cs : Nat → Int} {acs : Nat → Nat → Int} {ams : Nat → Int} {rel fnd : Int} {Ns : Nat → Nat → Nat} {K_o L_o : Int} (hst : kSu w_o ad nr g_o T_o lts cs acs ams rel fnd Ns) (hK : -2147483648 ≤ K_o ∧ K_o < 2147483648) (hL : -2147483648 ≤ L_o ∧ L_o < 2147483648) : kMX E_o l_o yX6_ambiguous (.code yX6_ambiguous cX6_ambiguous 3 (some .int) :: kAL) { frames := 7, cells := 1, slots := 6, locals := 148 } 1 6 [.ref (ad 0), .int (iI K_o), .int (iI L_o)] w_o (pI (fun c_o w2_o => ((1 ≤ K_o ∧ K_o ≤ 3) ∧ 1 ≤ L_o ∧ L_o ≤ 4) ∧ (∃ n_o : Nat, m_ar g_o nr K_o L_o c_o.toNat n_o ∧ (1 ≤ c_o ∧ c_o ≤ 4)) ∧ kSv w_o w2_o ad nr g_o T_o lts cs acs ams rel fnd Ns)) (fun Ex w2_o => ((Ex = "java/lang/IllegalArgumentException" ∧ ¬ ((1 ≤ K_o ∧ K_o ≤ 3) ∧ 1 ≤ L_o ∧ L_o ≤ 4)) ∨ (Ex = "java/util/NoSuchElementException" ∧ ((1 ≤ K_o ∧ K_o ≤ 3) ∧ 1 ≤ L_o ∧ L_o ≤ 4) ∧ m_an g_o nr K_o L_o)) ∧ kSv w_o w2_o ad nr g_o T_o lts cs acs ams rel fnd Ns) := by
  refine kMX_of hl0 (by decide +kernel) (Nat.le_of_ble_eq_true rfl) ?_
  intro X_o hXl h_o hr
  subst hXl
  obtain ⟨⟨hpo, hgr, hwf, hts, hsc, hlo, hto, htx, htj⟩, hT⟩ := id hst
  obtain ⟨ls, Nz, cz, hs4, hs5, hs6⟩ := hsc
  obtain ⟨O_o, sk, hly, hOi⟩ := hlo
  obtain ⟨ht15, kn, ht16⟩ := hto
  have hnr := hgr.2.2.2
  have hT6 := hts.2
  show kG E_o X_o 3 0 0 w_o 0 [(0, .ref (ad 0)), (1, .int (iI K_o)), (2, .int (iI L_o))] []
  refine k_aload_n h_o 0 dX6_ambiguous_0 rfl rfl ?_
  refine k_iload_n h_o 1 dX6_ambiguous_1 rfl rfl ?_
  refine k_iload_n h_o 2 dX6_ambiguous_2 rfl rfl ?_
  refine k_callVX (As := [.int (iI K_o), .int (iI L_o)]) (rest := []) h_o mX6_lengthOfAmbiguousRow kq_4_62 (c_X6_lengthOfAmbiguousRow hl0 hst (by omega) (by omega)) 0 hpo rfl rfl rfl (Nat.le_of_ble_eq_true rfl) ⟨rfl, rfl, ⟨(Nat.le_of_ble_eq_true rfl), (Nat.le_of_ble_eq_true rfl)⟩, ⟨(Nat.le_of_ble_eq_true rfl), (Nat.le_of_ble_eq_true rfl)⟩⟩ dX6_ambiguous_3 (fun Ex wx hx => k_out h_o hr (by obtain ⟨e1, e2⟩ := hx; exact ⟨e1, e2⟩) (by decide) (by decide)) (kcI fun zF wF hp => ?_)
  obtain ⟨hWR, ⟨n_o, har, hcq, l8, N8, hsp8, hl8, hrw8⟩, hsF, hxF⟩ := hp
  exact k_iret h_o hr.ret rfl (⟨_, rfl, hWR, ⟨n_o, har, hcq⟩, hsF, hxF⟩) (by omega) (by omega) dX6_ambiguous_6

set_option maxHeartbeats 400000 in
set_option maxRecDepth 100000 in
theorem c_X6_ambiguousAt {E_o : kE} {l_o : Launch} (hl0 : l_o.stackTraces = false) {w_o : kW} {ad : Nat → Nat} {nr : Nat} {g_o : Nat → Nat → Int} {T_o : Nat} {lts : Nat → Nat → Int} {cs : Nat → Int} {acs : Nat → Nat → Int} {ams : Nat → Int} {rel fnd : Int} {Ns : Nat → Nat → Nat} {K_o L_o p_o : Int} (hst : kSu w_o ad nr g_o T_o lts cs acs ams rel fnd Ns) (hK : -2147483648 ≤ K_o ∧ K_o < 2147483648) (hL : -2147483648 ≤ L_o ∧ L_o < 2147483648) (hp : -2147483648 ≤ p_o ∧ p_o < 2147483648) : kMX E_o l_o yX6_ambiguousAt (.code yX6_ambiguousAt cX6_ambiguousAt 5 (some .int) :: kAL) { frames := 7, cells := 2, slots := 12, locals := 148 } 2 12 [.ref (ad 0), .int (iI K_o), .int (iI L_o), .int (iI p_o)] w_o (pI (fun u_o w2_o => ((1 ≤ K_o ∧ K_o ≤ 3) ∧ 1 ≤ L_o ∧ L_o ≤ 4) ∧ (∃ c_o n_o : Nat, m_ar g_o nr K_o L_o c_o n_o ∧ (1 ≤ c_o ∧ c_o ≤ 4) ∧ (0 ≤ p_o ∧ p_o < (c_o : Int)) ∧ m_rw K_o c_o n_o p_o.toNat = u_o) ∧ kSv w_o w2_o ad nr g_o T_o lts cs acs ams rel fnd Ns)) (fun Ex w2_o => (((Ex = "java/lang/IllegalArgumentException" ∧ ¬ ((1 ≤ K_o ∧ K_o ≤ 3) ∧ 1 ≤ L_o ∧ L_o ≤ 4)) ∨ (Ex = "java/util/NoSuchElementException" ∧ ((1 ≤ K_o ∧ K_o ≤ 3) ∧ 1 ≤ L_o ∧ L_o ≤ 4) ∧ m_an g_o nr K_o L_o)) ∨ (Ex = "java/util/NoSuchElementException" ∧ ((1 ≤ K_o ∧ K_o ≤ 3) ∧ 1 ≤ L_o ∧ L_o ≤ 4) ∧ ∃ c_o n_o : Nat, m_ar g_o nr K_o L_o c_o n_o ∧ ¬ (0 ≤ p_o ∧ p_o < (c_o : Int)))) ∧ kSv w_o w2_o ad nr g_o T_o lts cs acs ams rel fnd Ns) := by
  refine kMX_of hl0 (by decide +kernel) (Nat.le_of_ble_eq_true rfl) ?_
  intro X_o hXl h_o hr
  subst hXl
  obtain ⟨⟨hpo, hgr, hwf, hts, hsc, hlo, hto, htx, htj⟩, hT⟩ := id hst
  obtain ⟨ls, Nz, cz, hs4, hs5, hs6⟩ := hsc
  obtain ⟨O_o, sk, hly, hOi⟩ := hlo
  obtain ⟨ht15, kn, ht16⟩ := hto
  have hnr := hgr.2.2.2
  have hT6 := hts.2
  show kG E_o X_o 5 0 0 w_o 0 [(0, .ref (ad 0)), (1, .int (iI K_o)), (2, .int (iI L_o)), (3, .int (iI p_o))] []
  refine k_aload_n h_o 0 dX6_ambiguousAt_0 rfl rfl ?_
  refine k_iload_n h_o 1 dX6_ambiguousAt_1 rfl rfl ?_
  refine k_iload_n h_o 2 dX6_ambiguousAt_2 rfl rfl ?_
  refine k_callVX (As := [.int (iI K_o), .int (iI L_o)]) (rest := []) h_o mX6_lengthOfAmbiguousRow kq_4_62 (c_X6_lengthOfAmbiguousRow hl0 hst (by omega) (by omega)) 0 hpo rfl rfl rfl (Nat.le_of_ble_eq_true rfl) ⟨rfl, rfl, ⟨(Nat.le_of_ble_eq_true rfl), (Nat.le_of_ble_eq_true rfl)⟩, ⟨(Nat.le_of_ble_eq_true rfl), (Nat.le_of_ble_eq_true rfl)⟩⟩ dX6_ambiguousAt_3 (fun Ex wx hx => k_out h_o hr (by obtain ⟨e1, e2⟩ := hx; exact ⟨Or.inl e1, e2⟩) (by decide) (by decide)) (kcI fun zF wF hp => ?_)
  obtain ⟨hWR, ⟨n_o, har, hcq, l8, N8, hsp8, hl8, hrw8⟩, hsF, hxF⟩ := hp
  refine k_istore (lv' := [(4, .int (iI zF)), (0, .ref (ad 0)), (1, .int (iI K_o)), (2, .int (iI L_o)), (3, .int (iI p_o))]) h_o dX6_ambiguousAt_6 (by decide) rfl ?_
  refine k_iload_n h_o 4 dX6_ambiguousAt_8 rfl rfl ?_
  refine k_iflt h_o 18 (by omega) dX6_ambiguousAt_9 (by decide) (fun h9_o => ?_) (fun h9_o => ?_)
  · exact k_throw0 (names := ["java/lang/RuntimeException", "java/lang/Exception"]) h_o hr (by decide +kernel) (by decide +kernel) kq_2_237 kq_1_13 kx1_NSE kx2_NSE kx3_NSE dX6_ambiguousAt_18 dX6_ambiguousAt_21 dX6_ambiguousAt_22 dX6_ambiguousAt_25 ⟨by decide, by decide, by decide, by decide⟩ (⟨Or.inr ⟨rfl, hWR, zF.toNat, n_o, har, (by omega)⟩, hsF, hxF⟩) (by decide) (by decide)
  · refine k_iload_n h_o 4 dX6_ambiguousAt_12 rfl rfl ?_
    refine k_iload h_o 0 dX6_ambiguousAt_13 rfl ?_
    refine k_icmp_lt h_o 26 (by omega) (by omega) dX6_ambiguousAt_15 (by decide) (fun h15_o => ?_) (fun h15_o => ?_)
    · refine k_aload_n h_o 1 dX6_ambiguousAt_26 rfl rfl ?_
      refine k_get h_o 0 kf_X6_25 hsF.1.1 rfl dX6_ambiguousAt_27 ?_
      refine k_iload_n h_o 4 dX6_ambiguousAt_30 rfl rfl ?_
      refine k_callV (As := [.int (iI p_o)]) (rest := []) h_o mX3_letterOf kq_3_154 (c_X3_letterOf hl0 hsp8 (by omega)) 4 hsp8.1 rfl rfl rfl (Nat.le_of_ble_eq_true rfl) ⟨rfl, rfl, ⟨(Nat.le_of_ble_eq_true rfl), (Nat.le_of_ble_eq_true rfl)⟩, ⟨(Nat.le_of_ble_eq_true rfl), (Nat.le_of_ble_eq_true rfl)⟩⟩ dX6_ambiguousAt_31 (kcI fun z31_o w31_o hp => ?_)
      obtain ⟨rfl, rfl⟩ := hp
      exact k_iret h_o hr.ret rfl (⟨_, rfl, hWR, ⟨zF.toNat, n_o, har, (by omega), (by omega), (hrw8 p_o.toNat (by omega)).symm⟩, hsF, hxF⟩) (by omega) (by omega) dX6_ambiguousAt_34
    · exact k_throw0 (names := ["java/lang/RuntimeException", "java/lang/Exception"]) h_o hr (by decide +kernel) (by decide +kernel) kq_2_237 kq_1_13 kx1_NSE kx2_NSE kx3_NSE dX6_ambiguousAt_18 dX6_ambiguousAt_21 dX6_ambiguousAt_22 dX6_ambiguousAt_25 ⟨by decide, by decide, by decide, by decide⟩ (⟨Or.inr ⟨rfl, hWR, zF.toNat, n_o, har, (by omega)⟩, hsF, hxF⟩) (by decide) (by decide)
