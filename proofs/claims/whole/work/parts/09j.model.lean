set_option maxHeartbeats 4000000 in
set_option maxRecDepth 100000 in
theorem c_X7_isText {E_o : kE} {l_o : Launch} (hl0 : l_o.stackTraces = false) {w_o : kW} {bd : Nat → Nat} {nr : Nat} {g_o : Nat → Nat → Int} {T_o : Nat} {cs ams ltA acA mnA : Nat → Int} {rel fnd sz : Int} {rx : Nat → Int} {N_o : Nat → Nat} {tm : Int} {tr sh sg : Nat → Int} {sm dp th : Int} {x_o : Int} (hmd : kMd w_o bd nr g_o T_o cs ams ltA acA mnA rel fnd sz rx N_o tm tr sh sg sm dp th) (hT6 : T_o ≤ 6) (hx : -2147483648 ≤ x_o ∧ x_o < 2147483648) : kM E_o l_o yX7_isText (.code yX7_isText cX7_isText 2 (some .boolean) :: kAL) { frames := 1, cells := 0, slots := 0, locals := 25 } 0 0 [.ref (bd 25), .int (iI x_o)] w_o (pI (fun z_o w2_o => bI (0 ≤ x_o ∧ x_o < ((T_o : Nat) : Int)) = z_o ∧ w_o = w2_o)) := by
  refine kM_of hl0 (by decide +kernel) (Nat.le_of_ble_eq_true rfl) ?_
  intro X_o hXl h_o hr hin
  subst hXl
  show kG E_o X_o 2 0 0 w_o 0 [(0, .ref (bd 25)), (1, .int (iI x_o))] []
  refine k_iload_n h_o 1 dX7_isText_0 rfl rfl ?_
  refine k_i2l h_o (by omega) dX7_isText_1 ?_
  refine k_lconst (z := 0) h_o dX7_isText_2 (by decide) ?_
  refine k_aload_n h_o 0 dX7_isText_3 rfl rfl ?_
  refine k_get h_o 19 kf_X7_134 hmd.1 rfl dX7_isText_4 ?_
  refine k_iconst h_o dX7_isText_7 ?_
  refine k_isub h_o dX7_isText_8 ?_
  refine k_i2l h_o (by omega) dX7_isText_9 ?_
  refine k_callS (As := [.long (lI x_o), .long (lI 0), .long (lI (((T_o : Nat) : Int) - 1))]) (rest := []) h_o mX7_in kq_4_216 (c_X7_in hl0 (by omega) (by decide) (by omega)) rfl rfl (Nat.le_of_ble_eq_true rfl) ⟨rfl, rfl, ⟨(Nat.le_of_ble_eq_true rfl), (Nat.le_of_ble_eq_true rfl)⟩, ⟨(Nat.le_of_ble_eq_true rfl), (Nat.le_of_ble_eq_true rfl)⟩⟩ dX7_isText_10 (kcI fun z10_o w10_o hp => ?_)
  obtain ⟨rfl, rfl⟩ := hp
  exact k_iret h_o hr bI_nar (⟨_, rfl, bI_iff (by omega), rfl⟩) (by omega) (by omega) dX7_isText_13

set_option maxHeartbeats 4000000 in
set_option maxRecDepth 100000 in
theorem c_X7_isPlace {E_o : kE} {l_o : Launch} (hl0 : l_o.stackTraces = false) {w_o : kW} {bd : Nat → Nat} {nr : Nat} {g_o : Nat → Nat → Int} {T_o : Nat} {cs ams ltA acA mnA : Nat → Int} {rel fnd sz : Int} {rx : Nat → Int} {N_o : Nat → Nat} {tm : Int} {tr sh sg : Nat → Int} {sm dp th : Int} {lts acs : Nat → Nat → Int} {x_o p_o : Int} (hmd : kMd w_o bd nr g_o T_o cs ams ltA acA mnA rel fnd sz rx N_o tm tr sh sg sm dp th) (hI : kMi nr g_o T_o lts cs acs ams ltA acA mnA) (hx : -2147483648 ≤ x_o ∧ x_o < 2147483648) (hp : -2147483648 ≤ p_o ∧ p_o < 2147483648) : kM E_o l_o yX7_isPlace (.code yX7_isPlace cX7_isPlace 3 (some .boolean) :: kAL) { frames := 2, cells := 0, slots := 0, locals := 46 } 0 0 [.ref (bd 25), .int (iI x_o), .int (iI p_o)] w_o (pI (fun z_o w2_o => bI ((0 ≤ x_o ∧ x_o < ((T_o : Nat) : Int)) ∧ 0 ≤ p_o ∧ p_o < cs x_o.toNat) = z_o ∧ w_o = w2_o)) := by
  refine kM_of hl0 (by decide +kernel) (Nat.le_of_ble_eq_true rfl) ?_
  intro X_o hXl h_o hr hin
  subst hXl
  obtain ⟨hwf, hnr, hT6, hmn, hg0, htx⟩ := id hI
  show kG E_o X_o 3 0 0 w_o 0 [(0, .ref (bd 25)), (1, .int (iI x_o)), (2, .int (iI p_o))] []
  refine k_aload_n h_o 0 dX7_isPlace_0 rfl rfl ?_
  refine k_iload_n h_o 1 dX7_isPlace_1 rfl rfl ?_
  refine k_callV (As := [.int (iI x_o)]) (rest := []) h_o mX7_isText kq_5_20 (c_X7_isText hl0 hmd hT6 (by omega)) 19 hmd.1 rfl rfl rfl (Nat.le_of_ble_eq_true rfl) ⟨rfl, rfl, ⟨(Nat.le_of_ble_eq_true rfl), (Nat.le_of_ble_eq_true rfl)⟩, ⟨(Nat.le_of_ble_eq_true rfl), (Nat.le_of_ble_eq_true rfl)⟩⟩ dX7_isPlace_2 (kcI fun z2_o w2_o hp => ?_)
  obtain ⟨rfl, rfl⟩ := hp
  refine k_ifBeq h_o 30 dX7_isPlace_5 (by decide) (fun h5_o => ?_) (fun h5_o => ?_)
  · refine k_iconst h_o dX7_isPlace_30 ?_
    exact k_iret h_o hr rfl (⟨_, rfl, (bI_f (by omega)), rfl⟩) (by omega) (by omega) dX7_isPlace_31
  · obtain ⟨hlx, hcx, hax, hacx, hltx, hacAx⟩ := htx x_o.toNat (by omega)
    refine k_iload_n h_o 2 dX7_isPlace_8 rfl rfl ?_
    refine k_i2l h_o (by omega) dX7_isPlace_9 ?_
    refine k_lconst (z := 0) h_o dX7_isPlace_10 (by decide) ?_
    refine k_aload_n h_o 0 dX7_isPlace_11 rfl rfl ?_
    refine k_get h_o 19 kf_X7_35 hmd.1 rfl dX7_isPlace_12 ?_
    refine k_iload_n h_o 1 dX7_isPlace_15 rfl rfl ?_
    refine k_iald h_o 29 hmd.2.2.2.2.2.2.2.2.2.1 (by omega) (by decide) dX7_isPlace_16 ?_
    refine k_iconst h_o dX7_isPlace_17 ?_
    refine k_isub h_o dX7_isPlace_18 ?_
    refine k_i2l h_o (by omega) dX7_isPlace_19 ?_
    refine k_callS (As := [.long (lI p_o), .long (lI 0), .long (lI ((cs ((x_o).toNat)) - 1))]) (rest := []) h_o mX7_in kq_4_216 (c_X7_in hl0 (by omega) (by decide) (by omega)) rfl rfl (Nat.le_of_ble_eq_true rfl) ⟨rfl, rfl, ⟨(Nat.le_of_ble_eq_true rfl), (Nat.le_of_ble_eq_true rfl)⟩, ⟨(Nat.le_of_ble_eq_true rfl), (Nat.le_of_ble_eq_true rfl)⟩⟩ dX7_isPlace_20 (kcI fun z20_o w20_o hp => ?_)
    obtain ⟨rfl, rfl⟩ := hp
    refine k_ifBeq h_o 30 dX7_isPlace_23 (by decide) (fun h23_o => ?_) (fun h23_o => ?_)
    · refine k_iconst h_o dX7_isPlace_30 ?_
      exact k_iret h_o hr rfl (⟨_, rfl, (bI_f (by omega)), rfl⟩) (by omega) (by omega) dX7_isPlace_31
    · refine k_iconst h_o dX7_isPlace_26 ?_
      refine k_goto h_o 31 dX7_isPlace_27 (by decide) ?_
      exact k_iret h_o hr rfl (⟨_, rfl, (bI_t (by omega)), rfl⟩) (by omega) (by omega) dX7_isPlace_31

set_option maxHeartbeats 4000000 in
set_option maxRecDepth 100000 in
theorem c_X7_isRule {E_o : kE} {l_o : Launch} (hl0 : l_o.stackTraces = false) {w_o : kW} {bd : Nat → Nat} {nr : Nat} {g_o : Nat → Nat → Int} {T_o : Nat} {cs ams ltA acA mnA : Nat → Int} {rel fnd sz : Int} {rx : Nat → Int} {N_o : Nat → Nat} {tm : Int} {tr sh sg : Nat → Int} {sm dp th : Int} {x_o : Int} (hmd : kMd w_o bd nr g_o T_o cs ams ltA acA mnA rel fnd sz rx N_o tm tr sh sg sm dp th) (hwf : kWf g_o nr) (hnr : nr ≤ 12) (hx : -2147483648 ≤ x_o ∧ x_o < 2147483648) : kM E_o l_o yX7_isRule (.code yX7_isRule cX7_isRule 2 (some .boolean) :: kAL) { frames := 1, cells := 0, slots := 0, locals := 25 } 0 0 [.ref (bd 25), .int (iI x_o)] w_o (pI (fun z_o w2_o => bI (m_live g_o nr x_o) = z_o ∧ w_o = w2_o)) := by
  refine kM_of hl0 (by decide +kernel) (Nat.le_of_ble_eq_true rfl) ?_
  intro X_o hXl h_o hr hin
  subst hXl
  show kG E_o X_o 2 0 0 w_o 0 [(0, .ref (bd 25)), (1, .int (iI x_o))] []
  refine k_iload_n h_o 1 dX7_isRule_0 rfl rfl ?_
  refine k_i2l h_o (by omega) dX7_isRule_1 ?_
  refine k_lconst (z := 0) h_o dX7_isRule_2 (by decide) ?_
  refine k_aload_n h_o 0 dX7_isRule_3 rfl rfl ?_
  refine k_get h_o 19 kf_X7_96 hmd.1 rfl dX7_isRule_4 ?_
  refine k_iconst h_o dX7_isRule_7 ?_
  refine k_isub h_o dX7_isRule_8 ?_
  refine k_i2l h_o (by omega) dX7_isRule_9 ?_
  refine k_callS (As := [.long (lI x_o), .long (lI 0), .long (lI (((nr : Nat) : Int) - 1))]) (rest := []) h_o mX7_in kq_4_216 (c_X7_in hl0 (by omega) (by decide) (by omega)) rfl rfl (Nat.le_of_ble_eq_true rfl) ⟨rfl, rfl, ⟨(Nat.le_of_ble_eq_true rfl), (Nat.le_of_ble_eq_true rfl)⟩, ⟨(Nat.le_of_ble_eq_true rfl), (Nat.le_of_ble_eq_true rfl)⟩⟩ dX7_isRule_10 (kcI fun z10_o w10_o hp => ?_)
  obtain ⟨rfl, rfl⟩ := hp
  refine k_ifBeq h_o 29 dX7_isRule_13 (by decide) (fun h13_o => ?_) (fun h13_o => ?_)
  · refine k_iconst h_o dX7_isRule_29 ?_
    exact k_iret h_o hr rfl (⟨_, rfl, (bI_f (fun q_o => by obtain ⟨q1, q2, q3⟩ := q_o; omega)), rfl⟩) (by omega) (by omega) dX7_isRule_30
  · obtain ⟨hw1, hg5, hg6, hg7, hg8⟩ := hwf x_o.toNat (by omega)
    refine k_aload_n h_o 0 dX7_isRule_16 rfl rfl ?_
    refine k_get h_o 19 kf_X7_28 hmd.1 rfl dX7_isRule_17 ?_
    refine k_iload_n h_o 1 dX7_isRule_20 rfl rfl ?_
    refine k_zald h_o 26 hmd.2.2.2.2.2.2.2.1 (by omega) (by decide) dX7_isRule_21 ?_
    refine k_ifne h_o 29 (by omega) dX7_isRule_22 (by decide) (fun h22_o => ?_) (fun h22_o => ?_)
    · refine k_iconst h_o dX7_isRule_29 ?_
      exact k_iret h_o hr rfl (⟨_, rfl, (bI_f (fun q_o => by obtain ⟨q1, q2, q3⟩ := q_o; omega)), rfl⟩) (by omega) (by omega) dX7_isRule_30
    · refine k_iconst h_o dX7_isRule_25 ?_
      refine k_goto h_o 30 dX7_isRule_26 (by decide) ?_
      exact k_iret h_o hr rfl (⟨_, rfl, (bI_t ⟨by omega, by omega, by omega⟩), rfl⟩) (by omega) (by omega) dX7_isRule_30

set_option maxHeartbeats 4000000 in
set_option maxRecDepth 100000 in
theorem c_X7_asks {E_o : kE} {l_o : Launch} (hl0 : l_o.stackTraces = false) {w_o : kW} {bd : Nat → Nat} {nr : Nat} {g_o : Nat → Nat → Int} {T_o : Nat} {cs ams ltA acA mnA : Nat → Int} {rel fnd sz : Int} {rx : Nat → Int} {N_o : Nat → Nat} {tm : Int} {tr sh sg : Nat → Int} {sm dp th : Int} {x_o : Int} (hmd : kMd w_o bd nr g_o T_o cs ams ltA acA mnA rel fnd sz rx N_o tm tr sh sg sm dp th) (hT6 : T_o ≤ 6) (hx : -2147483648 ≤ x_o ∧ x_o < 2147483648) : kM E_o l_o yX7_asks (.code yX7_asks cX7_asks 2 (some .boolean) :: kAL) { frames := 2, cells := 0, slots := 0, locals := 46 } 0 0 [.ref (bd 25), .int (iI x_o)] w_o (pI (fun z_o w2_o => ((0 ≤ x_o ∧ x_o < ((T_o : Nat) : Int)) ∧ 1 = z_o ∧ (kMd w2_o bd nr g_o T_o cs ams ltA acA mnA rel fnd sz rx N_o tm tr sh sg sm dp 0) ∧ kEx w_o w2_o kMk) ∨ (¬ (0 ≤ x_o ∧ x_o < ((T_o : Nat) : Int)) ∧ 0 = z_o ∧ (kMd w2_o bd nr g_o T_o cs ams ltA acA mnA rel fnd sz rx N_o tm tr sh sg sm dp 1) ∧ kEx w_o w2_o kMk))) := by
  refine kM_of hl0 (by decide +kernel) (Nat.le_of_ble_eq_true rfl) ?_
  intro X_o hXl h_o hr hin
  subst hXl
  show kG E_o X_o 2 0 0 w_o 0 [(0, .ref (bd 25)), (1, .int (iI x_o))] []
  refine k_aload_n h_o 0 dX7_asks_0 rfl rfl ?_
  refine k_aload_n h_o 0 dX7_asks_1 rfl rfl ?_
  refine k_iload_n h_o 1 dX7_asks_2 rfl rfl ?_
  refine k_callV (As := [.int (iI x_o)]) (rest := [.ref (bd 25)]) h_o mX7_isText kq_5_20 (c_X7_isText hl0 hmd hT6 (by omega)) 19 hmd.1 rfl rfl rfl (Nat.le_of_ble_eq_true rfl) ⟨rfl, rfl, ⟨(Nat.le_of_ble_eq_true rfl), (Nat.le_of_ble_eq_true rfl)⟩, ⟨(Nat.le_of_ble_eq_true rfl), (Nat.le_of_ble_eq_true rfl)⟩⟩ dX7_asks_3 (kcI fun z3_o w3_o hp => ?_)
  obtain ⟨rfl, rfl⟩ := hp
  refine k_ifBeq h_o 13 dX7_asks_6 (by decide) (fun h6_o => ?_) (fun h6_o => ?_)
  · refine k_iconst h_o dX7_asks_13 ?_
    refine k_put (fs' := [.ref (bd 0), .ref (bd 1), .ref (bd 2), .ref (bd 3), .ref (bd 4), .ref (bd 5), .ref (bd 6), .int (iI ((nr : Nat) : Int)), .ref (bd 8), .ref (bd 9), .ref (bd 10), .ref (bd 11), .int (iI ((T_o : Nat) : Int)), .long (lI fnd), .int (iI rel), .ref (bd 15), .int (iI sz), .ref (bd 17), .ref (bd 18), .int (iI tm), .ref (bd 20), .ref (bd 21), .int (iI sm), .int (iI dp), .int (iI 1)]) h_o 19 kf_X7_60 kt_X7_24 hmd.1 rfl rfl (Nat.le_of_ble_eq_true rfl) rfl dX7_asks_14 ?_
    refine k_aload_n h_o 0 dX7_asks_17 rfl rfl ?_
    refine k_get h_o 19 kf_X7_60 kset_eq rfl dX7_asks_18 ?_
    refine k_ifne h_o 28 (by decide) dX7_asks_21 (by decide) (fun h21_o => ?_) (fun h21_o => ?_)
    · refine k_iconst h_o dX7_asks_28 ?_
      exact k_iret h_o hr rfl (⟨_, rfl, Or.inr ⟨h6_o, rfl, ⟨kset_eq, ((kset_ne (by decide)).trans hmd.2.1), ((kset_ne (by decide)).trans hmd.2.2.1), ((kset_ne (by decide)).trans hmd.2.2.2.1), ((kset_ne (by decide)).trans hmd.2.2.2.2.1), ((kset_ne (by decide)).trans hmd.2.2.2.2.2.1), ((kset_ne (by decide)).trans hmd.2.2.2.2.2.2.1), ((kset_ne (by decide)).trans hmd.2.2.2.2.2.2.2.1), ((kset_ne (by decide)).trans hmd.2.2.2.2.2.2.2.2.1), ((kset_ne (by decide)).trans hmd.2.2.2.2.2.2.2.2.2.1), ((kset_ne (by decide)).trans hmd.2.2.2.2.2.2.2.2.2.2.1), ((kset_ne (by decide)).trans hmd.2.2.2.2.2.2.2.2.2.2.2.1), ((kset_ne (by decide)).trans hmd.2.2.2.2.2.2.2.2.2.2.2.2.1), ((kset_ne (by decide)).trans hmd.2.2.2.2.2.2.2.2.2.2.2.2.2.1), ((kset_ne (by decide)).trans hmd.2.2.2.2.2.2.2.2.2.2.2.2.2.2.1), ((kset_ne (by decide)).trans hmd.2.2.2.2.2.2.2.2.2.2.2.2.2.2.2.1), ((kset_ne (by decide)).trans hmd.2.2.2.2.2.2.2.2.2.2.2.2.2.2.2.2)⟩, (fun x_o hx => ((kset_ne (by omega)).trans rfl))⟩⟩) (by omega) (by omega) dX7_asks_29
    · exfalso; omega
  · refine k_iconst h_o dX7_asks_9 ?_
    refine k_goto h_o 14 dX7_asks_10 (by decide) ?_
    refine k_put (fs' := [.ref (bd 0), .ref (bd 1), .ref (bd 2), .ref (bd 3), .ref (bd 4), .ref (bd 5), .ref (bd 6), .int (iI ((nr : Nat) : Int)), .ref (bd 8), .ref (bd 9), .ref (bd 10), .ref (bd 11), .int (iI ((T_o : Nat) : Int)), .long (lI fnd), .int (iI rel), .ref (bd 15), .int (iI sz), .ref (bd 17), .ref (bd 18), .int (iI tm), .ref (bd 20), .ref (bd 21), .int (iI sm), .int (iI dp), .int (iI 0)]) h_o 19 kf_X7_60 kt_X7_24 hmd.1 rfl rfl (Nat.le_of_ble_eq_true rfl) rfl dX7_asks_14 ?_
    refine k_aload_n h_o 0 dX7_asks_17 rfl rfl ?_
    refine k_get h_o 19 kf_X7_60 kset_eq rfl dX7_asks_18 ?_
    refine k_ifne h_o 28 (by decide) dX7_asks_21 (by decide) (fun h21_o => ?_) (fun h21_o => ?_)
    · exfalso; omega
    · refine k_iconst h_o dX7_asks_24 ?_
      refine k_goto h_o 29 dX7_asks_25 (by decide) ?_
      exact k_iret h_o hr rfl (⟨_, rfl, Or.inl ⟨h6_o, rfl, ⟨kset_eq, ((kset_ne (by decide)).trans hmd.2.1), ((kset_ne (by decide)).trans hmd.2.2.1), ((kset_ne (by decide)).trans hmd.2.2.2.1), ((kset_ne (by decide)).trans hmd.2.2.2.2.1), ((kset_ne (by decide)).trans hmd.2.2.2.2.2.1), ((kset_ne (by decide)).trans hmd.2.2.2.2.2.2.1), ((kset_ne (by decide)).trans hmd.2.2.2.2.2.2.2.1), ((kset_ne (by decide)).trans hmd.2.2.2.2.2.2.2.2.1), ((kset_ne (by decide)).trans hmd.2.2.2.2.2.2.2.2.2.1), ((kset_ne (by decide)).trans hmd.2.2.2.2.2.2.2.2.2.2.1), ((kset_ne (by decide)).trans hmd.2.2.2.2.2.2.2.2.2.2.2.1), ((kset_ne (by decide)).trans hmd.2.2.2.2.2.2.2.2.2.2.2.2.1), ((kset_ne (by decide)).trans hmd.2.2.2.2.2.2.2.2.2.2.2.2.2.1), ((kset_ne (by decide)).trans hmd.2.2.2.2.2.2.2.2.2.2.2.2.2.2.1), ((kset_ne (by decide)).trans hmd.2.2.2.2.2.2.2.2.2.2.2.2.2.2.2.1), ((kset_ne (by decide)).trans hmd.2.2.2.2.2.2.2.2.2.2.2.2.2.2.2.2)⟩, (fun x_o hx => ((kset_ne (by omega)).trans rfl))⟩⟩) (by omega) (by omega) dX7_asks_29

set_option maxHeartbeats 4000000 in
set_option maxRecDepth 100000 in
theorem c_X7_thrown {E_o : kE} {l_o : Launch} (hl0 : l_o.stackTraces = false) {w_o : kW} {bd : Nat → Nat} {nr : Nat} {g_o : Nat → Nat → Int} {T_o : Nat} {lts : Nat → Nat → Int} {cs : Nat → Int} {acs : Nat → Nat → Int} {ams : Nat → Int} {rel fnd th : Int} (hst : kMu w_o bd nr g_o T_o lts cs acs ams rel fnd th) : kM E_o l_o yX7_thrown (.code yX7_thrown cX7_thrown 1 (some .int) :: kAL) { frames := 0, cells := 0, slots := 0, locals := 0 } 0 0 [.ref (bd 25)] w_o (pI (fun z_o w2_o => th = z_o ∧ w_o = w2_o)) := by
  refine kM_of hl0 (by decide +kernel) (Nat.le_of_ble_eq_true rfl) ?_
  intro X_o hXl h_o hr hin
  subst hXl
  obtain ⟨ltA, acA, mnA, sz, rx, N_o, tm, tr, sh, sg, sm, dp, hmd, hI, hrx, hN_o⟩ := hst
  show kG E_o X_o 1 0 0 w_o 0 [(0, .ref (bd 25))] []
  refine k_aload_n h_o 0 dX7_thrown_0 rfl rfl ?_
  refine k_get h_o 19 kf_X7_60 hmd.1 rfl dX7_thrown_1 ?_
  exact k_iret h_o hr rfl (⟨_, rfl, rfl, rfl⟩) (by omega) (by omega) dX7_thrown_4

set_option maxHeartbeats 4000000 in
set_option maxRecDepth 100000 in
theorem c_X7_length {E_o : kE} {l_o : Launch} (hl0 : l_o.stackTraces = false) {w_o : kW} {bd : Nat → Nat} {nr : Nat} {g_o : Nat → Nat → Int} {T_o : Nat} {lts : Nat → Nat → Int} {cs : Nat → Int} {acs : Nat → Nat → Int} {ams : Nat → Int} {rel fnd th : Int} {x_o : Int} (hst : kMu w_o bd nr g_o T_o lts cs acs ams rel fnd th) (hx : -2147483648 ≤ x_o ∧ x_o < 2147483648) : kM E_o l_o yX7_length (.code yX7_length cX7_length 2 (some .int) :: kAL) { frames := 3, cells := 0, slots := 0, locals := 67 } 0 0 [.ref (bd 25), .int (iI x_o)] w_o (pI (fun z_o w2_o => ((0 ≤ x_o ∧ x_o < ((T_o : Nat) : Int)) ∧ cs x_o.toNat = z_o ∧ kMv w_o w2_o bd nr g_o T_o lts cs acs ams rel fnd 0) ∨ (¬ (0 ≤ x_o ∧ x_o < ((T_o : Nat) : Int)) ∧ kMv w_o w2_o bd nr g_o T_o lts cs acs ams rel fnd 1))) := by
  refine kM_of hl0 (by decide +kernel) (Nat.le_of_ble_eq_true rfl) ?_
  intro X_o hXl h_o hr hin
  subst hXl
  obtain ⟨ltA, acA, mnA, sz, rx, N_o, tm, tr, sh, sg, sm, dp, hmd, hI, hrx, hN_o⟩ := hst
  obtain ⟨hwf, hnr, hT6, hmn, hg0, htx⟩ := id hI
  show kG E_o X_o 2 0 0 w_o 0 [(0, .ref (bd 25)), (1, .int (iI x_o))] []
  refine k_aload_n h_o 0 dX7_length_0 rfl rfl ?_
  refine k_iload_n h_o 1 dX7_length_1 rfl rfl ?_
  refine k_callV (As := [.int (iI x_o)]) (rest := []) h_o mX7_asks kq_5_59 (c_X7_asks hl0 hmd hT6 (by omega)) 19 hmd.1 rfl rfl rfl (Nat.le_of_ble_eq_true rfl) ⟨rfl, rfl, ⟨(Nat.le_of_ble_eq_true rfl), (Nat.le_of_ble_eq_true rfl)⟩, ⟨(Nat.le_of_ble_eq_true rfl), (Nat.le_of_ble_eq_true rfl)⟩⟩ dX7_length_2 (kcI fun zq19 wq19 hp => ?_)
  rcases hp with ⟨hxT, rfl, hmdq19, hexq19⟩ | ⟨hxT, rfl, hmdq19, hexq19⟩
  · refine k_ifeq h_o 17 (by decide) dX7_length_5 (by decide) (fun h5_o => ?_) (fun h5_o => ?_)
    · exfalso; omega
    · refine k_aload_n h_o 0 dX7_length_8 rfl rfl ?_
      refine k_get h_o 19 kf_X7_35 hmdq19.1 rfl dX7_length_9 ?_
      refine k_iload_n h_o 1 dX7_length_12 rfl rfl ?_
      refine k_iald h_o 29 hmdq19.2.2.2.2.2.2.2.2.2.1 (by omega) (by decide) dX7_length_13 ?_
      refine k_goto h_o 18 dX7_length_14 (by decide) ?_
      have hmdZ : (kMd wq19 bd nr g_o T_o cs ams ltA acA mnA rel fnd sz rx N_o tm tr sh sg sm dp 0) := ⟨hmdq19.1, hmdq19.2.1, hmdq19.2.2.1, hmdq19.2.2.2.1, hmdq19.2.2.2.2.1, hmdq19.2.2.2.2.2.1, hmdq19.2.2.2.2.2.2.1, hmdq19.2.2.2.2.2.2.2.1, hmdq19.2.2.2.2.2.2.2.2.1, hmdq19.2.2.2.2.2.2.2.2.2.1, hmdq19.2.2.2.2.2.2.2.2.2.2.1, hmdq19.2.2.2.2.2.2.2.2.2.2.2.1, hmdq19.2.2.2.2.2.2.2.2.2.2.2.2.1, hmdq19.2.2.2.2.2.2.2.2.2.2.2.2.2.1, hmdq19.2.2.2.2.2.2.2.2.2.2.2.2.2.2.1, hmdq19.2.2.2.2.2.2.2.2.2.2.2.2.2.2.2.1, hmdq19.2.2.2.2.2.2.2.2.2.2.2.2.2.2.2.2⟩
      exact k_iret h_o hr rfl (⟨_, rfl, Or.inl ⟨hxT, rfl, ⟨⟨_, _, _, _, _, _, _, _, _, _, _, _, hmdZ, hI, hrx, hN_o⟩, (fun x_o hx => (hexq19 x_o hx))⟩⟩⟩) (by omega) (by omega) dX7_length_18
  · refine k_ifeq h_o 17 (by decide) dX7_length_5 (by decide) (fun h5_o => ?_) (fun h5_o => ?_)
    · refine k_iconst h_o dX7_length_17 ?_
      have hmdZ : (kMd wq19 bd nr g_o T_o cs ams ltA acA mnA rel fnd sz rx N_o tm tr sh sg sm dp 1) := ⟨hmdq19.1, hmdq19.2.1, hmdq19.2.2.1, hmdq19.2.2.2.1, hmdq19.2.2.2.2.1, hmdq19.2.2.2.2.2.1, hmdq19.2.2.2.2.2.2.1, hmdq19.2.2.2.2.2.2.2.1, hmdq19.2.2.2.2.2.2.2.2.1, hmdq19.2.2.2.2.2.2.2.2.2.1, hmdq19.2.2.2.2.2.2.2.2.2.2.1, hmdq19.2.2.2.2.2.2.2.2.2.2.2.1, hmdq19.2.2.2.2.2.2.2.2.2.2.2.2.1, hmdq19.2.2.2.2.2.2.2.2.2.2.2.2.2.1, hmdq19.2.2.2.2.2.2.2.2.2.2.2.2.2.2.1, hmdq19.2.2.2.2.2.2.2.2.2.2.2.2.2.2.2.1, hmdq19.2.2.2.2.2.2.2.2.2.2.2.2.2.2.2.2⟩
      exact k_iret h_o hr rfl (⟨_, rfl, Or.inr ⟨hxT, ⟨⟨_, _, _, _, _, _, _, _, _, _, _, _, hmdZ, hI, hrx, hN_o⟩, (fun x_o hx => (hexq19 x_o hx))⟩⟩⟩) (by omega) (by omega) dX7_length_18
    · exfalso; omega

set_option maxHeartbeats 4000000 in
set_option maxRecDepth 100000 in
theorem c_X7_letterAt {E_o : kE} {l_o : Launch} (hl0 : l_o.stackTraces = false) {w_o : kW} {bd : Nat → Nat} {nr : Nat} {g_o : Nat → Nat → Int} {T_o : Nat} {lts : Nat → Nat → Int} {cs : Nat → Int} {acs : Nat → Nat → Int} {ams : Nat → Int} {rel fnd th : Int} {x_o p_o : Int} (hst : kMu w_o bd nr g_o T_o lts cs acs ams rel fnd th) (hx : -2147483648 ≤ x_o ∧ x_o < 2147483648) (hp : -2147483648 ≤ p_o ∧ p_o < 2147483648) : kM E_o l_o yX7_letterAt (.code yX7_letterAt cX7_letterAt 3 (some .int) :: kAL) { frames := 3, cells := 0, slots := 0, locals := 68 } 0 0 [.ref (bd 25), .int (iI x_o), .int (iI p_o)] w_o (pI (fun z_o w2_o => (((0 ≤ x_o ∧ x_o < ((T_o : Nat) : Int)) ∧ 0 ≤ p_o ∧ p_o < cs x_o.toNat) ∧ lts x_o.toNat p_o.toNat = z_o ∧ kMv w_o w2_o bd nr g_o T_o lts cs acs ams rel fnd 0) ∨ (¬ ((0 ≤ x_o ∧ x_o < ((T_o : Nat) : Int)) ∧ 0 ≤ p_o ∧ p_o < cs x_o.toNat) ∧ kMv w_o w2_o bd nr g_o T_o lts cs acs ams rel fnd 1))) := by
  refine kM_of hl0 (by decide +kernel) (Nat.le_of_ble_eq_true rfl) ?_
  intro X_o hXl h_o hr hin
  subst hXl
  obtain ⟨ltA, acA, mnA, sz, rx, N_o, tm, tr, sh, sg, sm, dp, hmd, hI, hrx, hN_o⟩ := hst
  obtain ⟨hwf, hnr, hT6, hmn, hg0, htx⟩ := id hI
  show kG E_o X_o 3 0 0 w_o 0 [(0, .ref (bd 25)), (1, .int (iI x_o)), (2, .int (iI p_o))] []
  refine k_aload_n h_o 0 dX7_letterAt_0 rfl rfl ?_
  refine k_aload_n h_o 0 dX7_letterAt_1 rfl rfl ?_
  refine k_iload_n h_o 1 dX7_letterAt_2 rfl rfl ?_
  refine k_iload_n h_o 2 dX7_letterAt_3 rfl rfl ?_
  refine k_callV (As := [.int (iI x_o), .int (iI p_o)]) (rest := [.ref (bd 25)]) h_o mX7_isPlace kq_5_51 (c_X7_isPlace hl0 hmd hI (by omega) (by omega)) 19 hmd.1 rfl rfl rfl (Nat.le_of_ble_eq_true rfl) ⟨rfl, rfl, ⟨(Nat.le_of_ble_eq_true rfl), (Nat.le_of_ble_eq_true rfl)⟩, ⟨(Nat.le_of_ble_eq_true rfl), (Nat.le_of_ble_eq_true rfl)⟩⟩ dX7_letterAt_4 (kcI fun z4_o w4_o hp => ?_)
  obtain ⟨rfl, rfl⟩ := hp
  refine k_ifBeq h_o 14 dX7_letterAt_7 (by decide) (fun h7_o => ?_) (fun h7_o => ?_)
  · refine k_iconst h_o dX7_letterAt_14 ?_
    refine k_put (fs' := [.ref (bd 0), .ref (bd 1), .ref (bd 2), .ref (bd 3), .ref (bd 4), .ref (bd 5), .ref (bd 6), .int (iI ((nr : Nat) : Int)), .ref (bd 8), .ref (bd 9), .ref (bd 10), .ref (bd 11), .int (iI ((T_o : Nat) : Int)), .long (lI fnd), .int (iI rel), .ref (bd 15), .int (iI sz), .ref (bd 17), .ref (bd 18), .int (iI tm), .ref (bd 20), .ref (bd 21), .int (iI sm), .int (iI dp), .int (iI 1)]) h_o 19 kf_X7_60 kt_X7_24 hmd.1 rfl rfl (Nat.le_of_ble_eq_true rfl) rfl dX7_letterAt_15 ?_
    refine k_aload_n h_o 0 dX7_letterAt_18 rfl rfl ?_
    refine k_get h_o 19 kf_X7_60 kset_eq rfl dX7_letterAt_19 ?_
    refine k_ifne h_o 39 (by decide) dX7_letterAt_22 (by decide) (fun h22_o => ?_) (fun h22_o => ?_)
    · refine k_iconst h_o dX7_letterAt_39 ?_
      have hmdZ : (kMd ((kset w_o 19 (bd 25) (ob 9 [.ref (bd 0), .ref (bd 1), .ref (bd 2), .ref (bd 3), .ref (bd 4), .ref (bd 5), .ref (bd 6), .int (iI ((nr : Nat) : Int)), .ref (bd 8), .ref (bd 9), .ref (bd 10), .ref (bd 11), .int (iI ((T_o : Nat) : Int)), .long (lI fnd), .int (iI rel), .ref (bd 15), .int (iI sz), .ref (bd 17), .ref (bd 18), .int (iI tm), .ref (bd 20), .ref (bd 21), .int (iI sm), .int (iI dp), .int (iI 1)]))) bd nr g_o T_o cs ams ltA acA mnA rel fnd sz rx N_o tm tr sh sg sm dp 1) := ⟨kset_eq, ((kset_ne (by decide)).trans hmd.2.1), ((kset_ne (by decide)).trans hmd.2.2.1), ((kset_ne (by decide)).trans hmd.2.2.2.1), ((kset_ne (by decide)).trans hmd.2.2.2.2.1), ((kset_ne (by decide)).trans hmd.2.2.2.2.2.1), ((kset_ne (by decide)).trans hmd.2.2.2.2.2.2.1), ((kset_ne (by decide)).trans hmd.2.2.2.2.2.2.2.1), ((kset_ne (by decide)).trans hmd.2.2.2.2.2.2.2.2.1), ((kset_ne (by decide)).trans hmd.2.2.2.2.2.2.2.2.2.1), ((kset_ne (by decide)).trans hmd.2.2.2.2.2.2.2.2.2.2.1), ((kset_ne (by decide)).trans hmd.2.2.2.2.2.2.2.2.2.2.2.1), ((kset_ne (by decide)).trans hmd.2.2.2.2.2.2.2.2.2.2.2.2.1), ((kset_ne (by decide)).trans hmd.2.2.2.2.2.2.2.2.2.2.2.2.2.1), ((kset_ne (by decide)).trans hmd.2.2.2.2.2.2.2.2.2.2.2.2.2.2.1), ((kset_ne (by decide)).trans hmd.2.2.2.2.2.2.2.2.2.2.2.2.2.2.2.1), ((kset_ne (by decide)).trans hmd.2.2.2.2.2.2.2.2.2.2.2.2.2.2.2.2)⟩
      exact k_iret h_o hr rfl (⟨_, rfl, Or.inr ⟨h7_o, ⟨⟨_, _, _, _, _, _, _, _, _, _, _, _, hmdZ, hI, hrx, hN_o⟩, (fun x_o hx => ((kset_ne (by omega)).trans rfl))⟩⟩⟩) (by omega) (by omega) dX7_letterAt_40
    · exfalso; omega
  · refine k_iconst h_o dX7_letterAt_10 ?_
    refine k_goto h_o 15 dX7_letterAt_11 (by decide) ?_
    refine k_put (fs' := [.ref (bd 0), .ref (bd 1), .ref (bd 2), .ref (bd 3), .ref (bd 4), .ref (bd 5), .ref (bd 6), .int (iI ((nr : Nat) : Int)), .ref (bd 8), .ref (bd 9), .ref (bd 10), .ref (bd 11), .int (iI ((T_o : Nat) : Int)), .long (lI fnd), .int (iI rel), .ref (bd 15), .int (iI sz), .ref (bd 17), .ref (bd 18), .int (iI tm), .ref (bd 20), .ref (bd 21), .int (iI sm), .int (iI dp), .int (iI 0)]) h_o 19 kf_X7_60 kt_X7_24 hmd.1 rfl rfl (Nat.le_of_ble_eq_true rfl) rfl dX7_letterAt_15 ?_
    refine k_aload_n h_o 0 dX7_letterAt_18 rfl rfl ?_
    refine k_get h_o 19 kf_X7_60 kset_eq rfl dX7_letterAt_19 ?_
    refine k_ifne h_o 39 (by decide) dX7_letterAt_22 (by decide) (fun h22_o => ?_) (fun h22_o => ?_)
    · exfalso; omega
    · obtain ⟨hlx, hcx, hax, hacx, hltx, hacAx⟩ := htx x_o.toNat (by omega)
      refine k_aload_n h_o 0 dX7_letterAt_25 rfl rfl ?_
      refine k_get h_o 19 kf_X7_32 kset_eq rfl dX7_letterAt_26 ?_
      refine k_bipush h_o dX7_letterAt_29 (by decide) ?_
      refine k_iload_n h_o 1 dX7_letterAt_31 rfl rfl ?_
      refine k_imul h_o dX7_letterAt_32 ?_
      refine k_iload_n h_o 2 dX7_letterAt_33 rfl rfl ?_
      refine k_iadd h_o dX7_letterAt_34 ?_
      refine k_iald h_o 28 ((kset_ne (by decide)).trans hmd.2.2.2.2.2.2.2.2.1) (by omega) (by decide) dX7_letterAt_35 ?_
      refine k_top (z' := lts x_o.toNat p_o.toNat) (by rw [show (10 * x_o + p_o).toNat = 10 * x_o.toNat + p_o.toNat by omega]; exact hltx p_o.toNat (by omega)) ?_
      refine k_goto h_o 40 dX7_letterAt_36 (by decide) ?_
      have hmdZ : (kMd ((kset w_o 19 (bd 25) (ob 9 [.ref (bd 0), .ref (bd 1), .ref (bd 2), .ref (bd 3), .ref (bd 4), .ref (bd 5), .ref (bd 6), .int (iI ((nr : Nat) : Int)), .ref (bd 8), .ref (bd 9), .ref (bd 10), .ref (bd 11), .int (iI ((T_o : Nat) : Int)), .long (lI fnd), .int (iI rel), .ref (bd 15), .int (iI sz), .ref (bd 17), .ref (bd 18), .int (iI tm), .ref (bd 20), .ref (bd 21), .int (iI sm), .int (iI dp), .int (iI 0)]))) bd nr g_o T_o cs ams ltA acA mnA rel fnd sz rx N_o tm tr sh sg sm dp 0) := ⟨kset_eq, ((kset_ne (by decide)).trans hmd.2.1), ((kset_ne (by decide)).trans hmd.2.2.1), ((kset_ne (by decide)).trans hmd.2.2.2.1), ((kset_ne (by decide)).trans hmd.2.2.2.2.1), ((kset_ne (by decide)).trans hmd.2.2.2.2.2.1), ((kset_ne (by decide)).trans hmd.2.2.2.2.2.2.1), ((kset_ne (by decide)).trans hmd.2.2.2.2.2.2.2.1), ((kset_ne (by decide)).trans hmd.2.2.2.2.2.2.2.2.1), ((kset_ne (by decide)).trans hmd.2.2.2.2.2.2.2.2.2.1), ((kset_ne (by decide)).trans hmd.2.2.2.2.2.2.2.2.2.2.1), ((kset_ne (by decide)).trans hmd.2.2.2.2.2.2.2.2.2.2.2.1), ((kset_ne (by decide)).trans hmd.2.2.2.2.2.2.2.2.2.2.2.2.1), ((kset_ne (by decide)).trans hmd.2.2.2.2.2.2.2.2.2.2.2.2.2.1), ((kset_ne (by decide)).trans hmd.2.2.2.2.2.2.2.2.2.2.2.2.2.2.1), ((kset_ne (by decide)).trans hmd.2.2.2.2.2.2.2.2.2.2.2.2.2.2.2.1), ((kset_ne (by decide)).trans hmd.2.2.2.2.2.2.2.2.2.2.2.2.2.2.2.2)⟩
      exact k_iret h_o hr rfl (⟨_, rfl, Or.inl ⟨h7_o, rfl, ⟨⟨_, _, _, _, _, _, _, _, _, _, _, _, hmdZ, hI, hrx, hN_o⟩, (fun x_o hx => ((kset_ne (by omega)).trans rfl))⟩⟩⟩) (by omega) (by omega) dX7_letterAt_40

set_option maxHeartbeats 4000000 in
set_option maxRecDepth 100000 in
theorem c_X7_trees {E_o : kE} {l_o : Launch} (hl0 : l_o.stackTraces = false) {w_o : kW} {bd : Nat → Nat} {nr : Nat} {g_o : Nat → Nat → Int} {T_o : Nat} {lts : Nat → Nat → Int} {cs : Nat → Int} {acs : Nat → Nat → Int} {ams : Nat → Int} {rel fnd th : Int} {x_o : Int} (hst : kMu w_o bd nr g_o T_o lts cs acs ams rel fnd th) (hx : -2147483648 ≤ x_o ∧ x_o < 2147483648) : kM E_o l_o yX7_trees (.code yX7_trees cX7_trees 2 (some .int) :: kAL) { frames := 7, cells := 0, slots := 0, locals := 168 } 0 0 [.ref (bd 25), .int (iI x_o)] w_o (pI (fun z_o w2_o => ((0 ≤ x_o ∧ x_o < ((T_o : Nat) : Int)) ∧ ((m_TT g_o nr (lts x_o.toNat) 10 0 (cs x_o.toNat - 1) : Nat) : Int) = z_o ∧ kMv w_o w2_o bd nr g_o T_o lts cs acs ams rel fnd 0) ∨ (¬ (0 ≤ x_o ∧ x_o < ((T_o : Nat) : Int)) ∧ kMv w_o w2_o bd nr g_o T_o lts cs acs ams rel fnd 1))) := by
  refine kM_of hl0 (by decide +kernel) (Nat.le_of_ble_eq_true rfl) ?_
  intro X_o hXl h_o hr hin
  subst hXl
  obtain ⟨ltA, acA, mnA, sz, rx, N_o, tm, tr, sh, sg, sm, dp, hmd, hI, hrx, hN_o⟩ := hst
  obtain ⟨hwf, hnr, hT6, hmn, hg0, htx⟩ := id hI
  show kG E_o X_o 2 0 0 w_o 0 [(0, .ref (bd 25)), (1, .int (iI x_o))] []
  refine k_aload_n h_o 0 dX7_trees_0 rfl rfl ?_
  refine k_iload_n h_o 1 dX7_trees_1 rfl rfl ?_
  refine k_callV (As := [.int (iI x_o)]) (rest := []) h_o mX7_asks kq_5_59 (c_X7_asks hl0 hmd hT6 (by omega)) 19 hmd.1 rfl rfl rfl (Nat.le_of_ble_eq_true rfl) ⟨rfl, rfl, ⟨(Nat.le_of_ble_eq_true rfl), (Nat.le_of_ble_eq_true rfl)⟩, ⟨(Nat.le_of_ble_eq_true rfl), (Nat.le_of_ble_eq_true rfl)⟩⟩ dX7_trees_2 (kcI fun zq20 wq20 hp => ?_)
  rcases hp with ⟨hxT, rfl, hmdq20, hexq20⟩ | ⟨hxT, rfl, hmdq20, hexq20⟩
  · refine k_ifeq h_o 16 (by decide) dX7_trees_5 (by decide) (fun h5_o => ?_) (fun h5_o => ?_)
    · exfalso; omega
    · refine k_aload_n h_o 0 dX7_trees_8 rfl rfl ?_
      refine k_iload_n h_o 1 dX7_trees_9 rfl rfl ?_
      refine k_callV (As := [.int (iI x_o)]) (rest := []) h_o mX7_laysText kq_5_24 (c_X7_laysText hl0 hmdq20 hI hrx hN_o (by omega)) 19 hmdq20.1 rfl rfl rfl (Nat.le_of_ble_eq_true rfl) ⟨rfl, rfl, ⟨(Nat.le_of_ble_eq_true rfl), (Nat.le_of_ble_eq_true rfl)⟩, ⟨(Nat.le_of_ble_eq_true rfl), (Nat.le_of_ble_eq_true rfl)⟩⟩ dX7_trees_10 (kcI fun z10_o wq21 hp => ?_)
      obtain ⟨rfl, rxq21, Nq21, hmdq21, hrxq21, hrowq21, hNq21, hTrq21, hexq21⟩ := hp
      refine k_goto h_o 17 dX7_trees_13 (by decide) ?_
      have hmdZ : (kMd wq21 bd nr g_o T_o cs ams ltA acA mnA rel fnd (cs x_o.toNat) rxq21 Nq21 tm tr sh sg sm dp 0) := ⟨hmdq21.1, hmdq21.2.1, hmdq21.2.2.1, hmdq21.2.2.2.1, hmdq21.2.2.2.2.1, hmdq21.2.2.2.2.2.1, hmdq21.2.2.2.2.2.2.1, hmdq21.2.2.2.2.2.2.2.1, hmdq21.2.2.2.2.2.2.2.2.1, hmdq21.2.2.2.2.2.2.2.2.2.1, hmdq21.2.2.2.2.2.2.2.2.2.2.1, hmdq21.2.2.2.2.2.2.2.2.2.2.2.1, hmdq21.2.2.2.2.2.2.2.2.2.2.2.2.1, hmdq21.2.2.2.2.2.2.2.2.2.2.2.2.2.1, hmdq21.2.2.2.2.2.2.2.2.2.2.2.2.2.2.1, hmdq21.2.2.2.2.2.2.2.2.2.2.2.2.2.2.2.1, hmdq21.2.2.2.2.2.2.2.2.2.2.2.2.2.2.2.2⟩
      exact k_iret h_o hr rfl (⟨_, rfl, Or.inl ⟨hxT, rfl, ⟨⟨_, _, _, _, _, _, _, _, _, _, _, _, hmdZ, hI, hrxq21, hNq21⟩, (fun x_o hx => ((hexq21 x_o hx).trans (hexq20 x_o hx)))⟩⟩⟩) (by omega) (by omega) dX7_trees_17
  · refine k_ifeq h_o 16 (by decide) dX7_trees_5 (by decide) (fun h5_o => ?_) (fun h5_o => ?_)
    · refine k_iconst h_o dX7_trees_16 ?_
      have hmdZ : (kMd wq20 bd nr g_o T_o cs ams ltA acA mnA rel fnd sz rx N_o tm tr sh sg sm dp 1) := ⟨hmdq20.1, hmdq20.2.1, hmdq20.2.2.1, hmdq20.2.2.2.1, hmdq20.2.2.2.2.1, hmdq20.2.2.2.2.2.1, hmdq20.2.2.2.2.2.2.1, hmdq20.2.2.2.2.2.2.2.1, hmdq20.2.2.2.2.2.2.2.2.1, hmdq20.2.2.2.2.2.2.2.2.2.1, hmdq20.2.2.2.2.2.2.2.2.2.2.1, hmdq20.2.2.2.2.2.2.2.2.2.2.2.1, hmdq20.2.2.2.2.2.2.2.2.2.2.2.2.1, hmdq20.2.2.2.2.2.2.2.2.2.2.2.2.2.1, hmdq20.2.2.2.2.2.2.2.2.2.2.2.2.2.2.1, hmdq20.2.2.2.2.2.2.2.2.2.2.2.2.2.2.2.1, hmdq20.2.2.2.2.2.2.2.2.2.2.2.2.2.2.2.2⟩
      exact k_iret h_o hr rfl (⟨_, rfl, Or.inr ⟨hxT, ⟨⟨_, _, _, _, _, _, _, _, _, _, _, _, hmdZ, hI, hrx, hN_o⟩, (fun x_o hx => (hexq20 x_o hx))⟩⟩⟩) (by omega) (by omega) dX7_trees_17
    · exfalso; omega

set_option maxHeartbeats 4000000 in
set_option maxRecDepth 100000 in
theorem c_X7_treesByTrying {E_o : kE} {l_o : Launch} (hl0 : l_o.stackTraces = false) {w_o : kW} {bd : Nat → Nat} {nr : Nat} {g_o : Nat → Nat → Int} {T_o : Nat} {lts : Nat → Nat → Int} {cs : Nat → Int} {acs : Nat → Nat → Int} {ams : Nat → Int} {rel fnd th : Int} {x_o : Int} (hst : kMu w_o bd nr g_o T_o lts cs acs ams rel fnd th) (hx : -2147483648 ≤ x_o ∧ x_o < 2147483648) : kM E_o l_o yX7_treesByTrying (.code yX7_treesByTrying cX7_treesByTrying 2 (some .int) :: kAL) { frames := 7, cells := 0, slots := 0, locals := 168 } 0 0 [.ref (bd 25), .int (iI x_o)] w_o (pI (fun z_o w2_o => (((0 ≤ x_o ∧ x_o < ((T_o : Nat) : Int)) ∧ cs x_o.toNat ≤ 5) ∧ ((m_TT g_o nr (lts x_o.toNat) 10 0 (cs x_o.toNat - 1) : Nat) : Int) = z_o ∧ kMv w_o w2_o bd nr g_o T_o lts cs acs ams rel fnd 0) ∨ (¬ (0 ≤ x_o ∧ x_o < ((T_o : Nat) : Int)) ∧ kMv w_o w2_o bd nr g_o T_o lts cs acs ams rel fnd 1) ∨ (((0 ≤ x_o ∧ x_o < ((T_o : Nat) : Int)) ∧ 5 < cs x_o.toNat) ∧ kMv w_o w2_o bd nr g_o T_o lts cs acs ams rel fnd 2))) := by
  refine kM_of hl0 (by decide +kernel) (Nat.le_of_ble_eq_true rfl) ?_
  intro X_o hXl h_o hr hin
  subst hXl
  obtain ⟨ltA, acA, mnA, sz, rx, N_o, tm, tr, sh, sg, sm, dp, hmd, hI, hrx, hN_o⟩ := hst
  obtain ⟨hwf, hnr, hT6, hmn, hg0, htx⟩ := id hI
  show kG E_o X_o 2 0 0 w_o 0 [(0, .ref (bd 25)), (1, .int (iI x_o))] []
  refine k_aload_n h_o 0 dX7_treesByTrying_0 rfl rfl ?_
  refine k_aload_n h_o 0 dX7_treesByTrying_1 rfl rfl ?_
  refine k_iload_n h_o 1 dX7_treesByTrying_2 rfl rfl ?_
  refine k_callV (As := [.int (iI x_o)]) (rest := [.ref (bd 25)]) h_o mX7_isText kq_5_20 (c_X7_isText hl0 hmd hT6 (by omega)) 19 hmd.1 rfl rfl rfl (Nat.le_of_ble_eq_true rfl) ⟨rfl, rfl, ⟨(Nat.le_of_ble_eq_true rfl), (Nat.le_of_ble_eq_true rfl)⟩, ⟨(Nat.le_of_ble_eq_true rfl), (Nat.le_of_ble_eq_true rfl)⟩⟩ dX7_treesByTrying_3 (kcI fun z3_o w3_o hp => ?_)
  obtain ⟨rfl, rfl⟩ := hp
  refine k_ifBne h_o 13 dX7_treesByTrying_6 (by decide) (fun h6_o => ?_) (fun h6_o => ?_)
  · obtain ⟨hlx, hcx, hax, hacx, hltx, hacAx⟩ := htx x_o.toNat (by omega)
    refine k_aload_n h_o 0 dX7_treesByTrying_13 rfl rfl ?_
    refine k_get h_o 19 kf_X7_35 hmd.1 rfl dX7_treesByTrying_14 ?_
    refine k_iload_n h_o 1 dX7_treesByTrying_17 rfl rfl ?_
    refine k_iald h_o 29 hmd.2.2.2.2.2.2.2.2.2.1 (by omega) (by decide) dX7_treesByTrying_18 ?_
    refine k_iconst h_o dX7_treesByTrying_19 ?_
    refine k_icmp_le h_o 27 (by omega) (by decide) dX7_treesByTrying_20 (by decide) (fun h20_o => ?_) (fun h20_o => ?_)
    · refine k_iconst h_o dX7_treesByTrying_27 ?_
      refine k_put (fs' := [.ref (bd 0), .ref (bd 1), .ref (bd 2), .ref (bd 3), .ref (bd 4), .ref (bd 5), .ref (bd 6), .int (iI ((nr : Nat) : Int)), .ref (bd 8), .ref (bd 9), .ref (bd 10), .ref (bd 11), .int (iI ((T_o : Nat) : Int)), .long (lI fnd), .int (iI rel), .ref (bd 15), .int (iI sz), .ref (bd 17), .ref (bd 18), .int (iI tm), .ref (bd 20), .ref (bd 21), .int (iI sm), .int (iI dp), .int (iI 0)]) h_o 19 kf_X7_60 kt_X7_24 hmd.1 rfl rfl (Nat.le_of_ble_eq_true rfl) rfl dX7_treesByTrying_28 ?_
      refine k_aload_n h_o 0 dX7_treesByTrying_31 rfl rfl ?_
      refine k_get h_o 19 kf_X7_60 kset_eq rfl dX7_treesByTrying_32 ?_
      refine k_ifne h_o 46 (by decide) dX7_treesByTrying_35 (by decide) (fun h35_o => ?_) (fun h35_o => ?_)
      · exfalso; omega
      · refine k_aload_n h_o 0 dX7_treesByTrying_38 rfl rfl ?_
        refine k_iload_n h_o 1 dX7_treesByTrying_39 rfl rfl ?_
        refine k_callV (As := [.int (iI x_o)]) (rest := []) h_o mX7_laysText kq_5_24 (c_X7_laysText hl0 ⟨kset_eq, ((kset_ne (by decide)).trans hmd.2.1), ((kset_ne (by decide)).trans hmd.2.2.1), ((kset_ne (by decide)).trans hmd.2.2.2.1), ((kset_ne (by decide)).trans hmd.2.2.2.2.1), ((kset_ne (by decide)).trans hmd.2.2.2.2.2.1), ((kset_ne (by decide)).trans hmd.2.2.2.2.2.2.1), ((kset_ne (by decide)).trans hmd.2.2.2.2.2.2.2.1), ((kset_ne (by decide)).trans hmd.2.2.2.2.2.2.2.2.1), ((kset_ne (by decide)).trans hmd.2.2.2.2.2.2.2.2.2.1), ((kset_ne (by decide)).trans hmd.2.2.2.2.2.2.2.2.2.2.1), ((kset_ne (by decide)).trans hmd.2.2.2.2.2.2.2.2.2.2.2.1), ((kset_ne (by decide)).trans hmd.2.2.2.2.2.2.2.2.2.2.2.2.1), ((kset_ne (by decide)).trans hmd.2.2.2.2.2.2.2.2.2.2.2.2.2.1), ((kset_ne (by decide)).trans hmd.2.2.2.2.2.2.2.2.2.2.2.2.2.2.1), ((kset_ne (by decide)).trans hmd.2.2.2.2.2.2.2.2.2.2.2.2.2.2.2.1), ((kset_ne (by decide)).trans hmd.2.2.2.2.2.2.2.2.2.2.2.2.2.2.2.2)⟩ hI hrx hN_o (by omega)) 19 kset_eq rfl rfl rfl (Nat.le_of_ble_eq_true rfl) ⟨rfl, rfl, ⟨(Nat.le_of_ble_eq_true rfl), (Nat.le_of_ble_eq_true rfl)⟩, ⟨(Nat.le_of_ble_eq_true rfl), (Nat.le_of_ble_eq_true rfl)⟩⟩ dX7_treesByTrying_40 (kcI fun z40_o wq22 hp => ?_)
        obtain ⟨rfl, rxq22, Nq22, hmdq22, hrxq22, hrowq22, hNq22, hTrq22, hexq22⟩ := hp
        refine k_goto h_o 47 dX7_treesByTrying_43 (by decide) ?_
        have hmdZ : (kMd wq22 bd nr g_o T_o cs ams ltA acA mnA rel fnd (cs x_o.toNat) rxq22 Nq22 tm tr sh sg sm dp 0) := ⟨hmdq22.1, hmdq22.2.1, hmdq22.2.2.1, hmdq22.2.2.2.1, hmdq22.2.2.2.2.1, hmdq22.2.2.2.2.2.1, hmdq22.2.2.2.2.2.2.1, hmdq22.2.2.2.2.2.2.2.1, hmdq22.2.2.2.2.2.2.2.2.1, hmdq22.2.2.2.2.2.2.2.2.2.1, hmdq22.2.2.2.2.2.2.2.2.2.2.1, hmdq22.2.2.2.2.2.2.2.2.2.2.2.1, hmdq22.2.2.2.2.2.2.2.2.2.2.2.2.1, hmdq22.2.2.2.2.2.2.2.2.2.2.2.2.2.1, hmdq22.2.2.2.2.2.2.2.2.2.2.2.2.2.2.1, hmdq22.2.2.2.2.2.2.2.2.2.2.2.2.2.2.2.1, hmdq22.2.2.2.2.2.2.2.2.2.2.2.2.2.2.2.2⟩
        exact k_iret h_o hr rfl (⟨_, rfl, Or.inl ⟨⟨h6_o, (by omega)⟩, rfl, ⟨⟨_, _, _, _, _, _, _, _, _, _, _, _, hmdZ, hI, hrxq22, hNq22⟩, (fun x_o hx => ((hexq22 x_o hx).trans ((kset_ne (by omega)).trans rfl)))⟩⟩⟩) (by omega) (by omega) dX7_treesByTrying_47
    · refine k_iconst h_o dX7_treesByTrying_23 ?_
      refine k_goto h_o 28 dX7_treesByTrying_24 (by decide) ?_
      refine k_put (fs' := [.ref (bd 0), .ref (bd 1), .ref (bd 2), .ref (bd 3), .ref (bd 4), .ref (bd 5), .ref (bd 6), .int (iI ((nr : Nat) : Int)), .ref (bd 8), .ref (bd 9), .ref (bd 10), .ref (bd 11), .int (iI ((T_o : Nat) : Int)), .long (lI fnd), .int (iI rel), .ref (bd 15), .int (iI sz), .ref (bd 17), .ref (bd 18), .int (iI tm), .ref (bd 20), .ref (bd 21), .int (iI sm), .int (iI dp), .int (iI 2)]) h_o 19 kf_X7_60 kt_X7_24 hmd.1 rfl rfl (Nat.le_of_ble_eq_true rfl) rfl dX7_treesByTrying_28 ?_
      refine k_aload_n h_o 0 dX7_treesByTrying_31 rfl rfl ?_
      refine k_get h_o 19 kf_X7_60 kset_eq rfl dX7_treesByTrying_32 ?_
      refine k_ifne h_o 46 (by decide) dX7_treesByTrying_35 (by decide) (fun h35_o => ?_) (fun h35_o => ?_)
      · refine k_iconst h_o dX7_treesByTrying_46 ?_
        have hmdZ : (kMd ((kset w_o 19 (bd 25) (ob 9 [.ref (bd 0), .ref (bd 1), .ref (bd 2), .ref (bd 3), .ref (bd 4), .ref (bd 5), .ref (bd 6), .int (iI ((nr : Nat) : Int)), .ref (bd 8), .ref (bd 9), .ref (bd 10), .ref (bd 11), .int (iI ((T_o : Nat) : Int)), .long (lI fnd), .int (iI rel), .ref (bd 15), .int (iI sz), .ref (bd 17), .ref (bd 18), .int (iI tm), .ref (bd 20), .ref (bd 21), .int (iI sm), .int (iI dp), .int (iI 2)]))) bd nr g_o T_o cs ams ltA acA mnA rel fnd sz rx N_o tm tr sh sg sm dp 2) := ⟨kset_eq, ((kset_ne (by decide)).trans hmd.2.1), ((kset_ne (by decide)).trans hmd.2.2.1), ((kset_ne (by decide)).trans hmd.2.2.2.1), ((kset_ne (by decide)).trans hmd.2.2.2.2.1), ((kset_ne (by decide)).trans hmd.2.2.2.2.2.1), ((kset_ne (by decide)).trans hmd.2.2.2.2.2.2.1), ((kset_ne (by decide)).trans hmd.2.2.2.2.2.2.2.1), ((kset_ne (by decide)).trans hmd.2.2.2.2.2.2.2.2.1), ((kset_ne (by decide)).trans hmd.2.2.2.2.2.2.2.2.2.1), ((kset_ne (by decide)).trans hmd.2.2.2.2.2.2.2.2.2.2.1), ((kset_ne (by decide)).trans hmd.2.2.2.2.2.2.2.2.2.2.2.1), ((kset_ne (by decide)).trans hmd.2.2.2.2.2.2.2.2.2.2.2.2.1), ((kset_ne (by decide)).trans hmd.2.2.2.2.2.2.2.2.2.2.2.2.2.1), ((kset_ne (by decide)).trans hmd.2.2.2.2.2.2.2.2.2.2.2.2.2.2.1), ((kset_ne (by decide)).trans hmd.2.2.2.2.2.2.2.2.2.2.2.2.2.2.2.1), ((kset_ne (by decide)).trans hmd.2.2.2.2.2.2.2.2.2.2.2.2.2.2.2.2)⟩
        exact k_iret h_o hr rfl (⟨_, rfl, Or.inr (Or.inr ⟨⟨h6_o, (by omega)⟩, ⟨⟨_, _, _, _, _, _, _, _, _, _, _, _, hmdZ, hI, hrx, hN_o⟩, (fun x_o hx => ((kset_ne (by omega)).trans rfl))⟩⟩)⟩) (by omega) (by omega) dX7_treesByTrying_47
      · exfalso; omega
  · refine k_iconst h_o dX7_treesByTrying_9 ?_
    refine k_goto h_o 28 dX7_treesByTrying_10 (by decide) ?_
    refine k_put (fs' := [.ref (bd 0), .ref (bd 1), .ref (bd 2), .ref (bd 3), .ref (bd 4), .ref (bd 5), .ref (bd 6), .int (iI ((nr : Nat) : Int)), .ref (bd 8), .ref (bd 9), .ref (bd 10), .ref (bd 11), .int (iI ((T_o : Nat) : Int)), .long (lI fnd), .int (iI rel), .ref (bd 15), .int (iI sz), .ref (bd 17), .ref (bd 18), .int (iI tm), .ref (bd 20), .ref (bd 21), .int (iI sm), .int (iI dp), .int (iI 1)]) h_o 19 kf_X7_60 kt_X7_24 hmd.1 rfl rfl (Nat.le_of_ble_eq_true rfl) rfl dX7_treesByTrying_28 ?_
    refine k_aload_n h_o 0 dX7_treesByTrying_31 rfl rfl ?_
    refine k_get h_o 19 kf_X7_60 kset_eq rfl dX7_treesByTrying_32 ?_
    refine k_ifne h_o 46 (by decide) dX7_treesByTrying_35 (by decide) (fun h35_o => ?_) (fun h35_o => ?_)
    · refine k_iconst h_o dX7_treesByTrying_46 ?_
      have hmdZ : (kMd ((kset w_o 19 (bd 25) (ob 9 [.ref (bd 0), .ref (bd 1), .ref (bd 2), .ref (bd 3), .ref (bd 4), .ref (bd 5), .ref (bd 6), .int (iI ((nr : Nat) : Int)), .ref (bd 8), .ref (bd 9), .ref (bd 10), .ref (bd 11), .int (iI ((T_o : Nat) : Int)), .long (lI fnd), .int (iI rel), .ref (bd 15), .int (iI sz), .ref (bd 17), .ref (bd 18), .int (iI tm), .ref (bd 20), .ref (bd 21), .int (iI sm), .int (iI dp), .int (iI 1)]))) bd nr g_o T_o cs ams ltA acA mnA rel fnd sz rx N_o tm tr sh sg sm dp 1) := ⟨kset_eq, ((kset_ne (by decide)).trans hmd.2.1), ((kset_ne (by decide)).trans hmd.2.2.1), ((kset_ne (by decide)).trans hmd.2.2.2.1), ((kset_ne (by decide)).trans hmd.2.2.2.2.1), ((kset_ne (by decide)).trans hmd.2.2.2.2.2.1), ((kset_ne (by decide)).trans hmd.2.2.2.2.2.2.1), ((kset_ne (by decide)).trans hmd.2.2.2.2.2.2.2.1), ((kset_ne (by decide)).trans hmd.2.2.2.2.2.2.2.2.1), ((kset_ne (by decide)).trans hmd.2.2.2.2.2.2.2.2.2.1), ((kset_ne (by decide)).trans hmd.2.2.2.2.2.2.2.2.2.2.1), ((kset_ne (by decide)).trans hmd.2.2.2.2.2.2.2.2.2.2.2.1), ((kset_ne (by decide)).trans hmd.2.2.2.2.2.2.2.2.2.2.2.2.1), ((kset_ne (by decide)).trans hmd.2.2.2.2.2.2.2.2.2.2.2.2.2.1), ((kset_ne (by decide)).trans hmd.2.2.2.2.2.2.2.2.2.2.2.2.2.2.1), ((kset_ne (by decide)).trans hmd.2.2.2.2.2.2.2.2.2.2.2.2.2.2.2.1), ((kset_ne (by decide)).trans hmd.2.2.2.2.2.2.2.2.2.2.2.2.2.2.2.2)⟩
      exact k_iret h_o hr rfl (⟨_, rfl, Or.inr (Or.inl ⟨h6_o, ⟨⟨_, _, _, _, _, _, _, _, _, _, _, _, hmdZ, hI, hrx, hN_o⟩, (fun x_o hx => ((kset_ne (by omega)).trans rfl))⟩⟩)⟩) (by omega) (by omega) dX7_treesByTrying_47
    · exfalso; omega

set_option maxHeartbeats 4000000 in
set_option maxRecDepth 100000 in
theorem c_X7_treesOver {E_o : kE} {l_o : Launch} (hl0 : l_o.stackTraces = false) {w_o : kW} {bd : Nat → Nat} {nr : Nat} {g_o : Nat → Nat → Int} {T_o : Nat} {lts : Nat → Nat → Int} {cs : Nat → Int} {acs : Nat → Nat → Int} {ams : Nat → Int} {rel fnd th : Int} {x_o s_o i_o j_o : Int} (hst : kMu w_o bd nr g_o T_o lts cs acs ams rel fnd th) (hx : -2147483648 ≤ x_o ∧ x_o < 2147483648) (hs : -2147483648 ≤ s_o ∧ s_o < 2147483648) (hi_o : -2147483648 ≤ i_o ∧ i_o < 2147483648) (hj : -2147483648 ≤ j_o ∧ j_o < 2147483648) : kM E_o l_o yX7_treesOver (.code yX7_treesOver cX7_treesOver 6 (some .int) :: kAL) { frames := 7, cells := 0, slots := 0, locals := 168 } 0 0 [.ref (bd 25), .int (iI x_o), .int (iI s_o), .int (iI i_o), .int (iI j_o)] w_o (pI (fun z_o w2_o => (((((0 ≤ x_o ∧ x_o < ((T_o : Nat) : Int)) ∧ 0 ≤ i_o ∧ i_o < cs x_o.toNat) ∧ ((0 ≤ x_o ∧ x_o < ((T_o : Nat) : Int)) ∧ 0 ≤ j_o ∧ j_o < cs x_o.toNat)) ∧ m_isN s_o ∧ i_o ≤ j_o) ∧ ((m_TT g_o nr (lts x_o.toNat) s_o i_o j_o : Nat) : Int) = z_o ∧ kMv w_o w2_o bd nr g_o T_o lts cs acs ams rel fnd 0) ∨ (¬ (((0 ≤ x_o ∧ x_o < ((T_o : Nat) : Int)) ∧ 0 ≤ i_o ∧ i_o < cs x_o.toNat) ∧ ((0 ≤ x_o ∧ x_o < ((T_o : Nat) : Int)) ∧ 0 ≤ j_o ∧ j_o < cs x_o.toNat)) ∧ kMv w_o w2_o bd nr g_o T_o lts cs acs ams rel fnd 1) ∨ (((((0 ≤ x_o ∧ x_o < ((T_o : Nat) : Int)) ∧ 0 ≤ i_o ∧ i_o < cs x_o.toNat) ∧ ((0 ≤ x_o ∧ x_o < ((T_o : Nat) : Int)) ∧ 0 ≤ j_o ∧ j_o < cs x_o.toNat)) ∧ ¬ (m_isN s_o ∧ i_o ≤ j_o)) ∧ kMv w_o w2_o bd nr g_o T_o lts cs acs ams rel fnd 2))) := by
  refine kM_of hl0 (by decide +kernel) (Nat.le_of_ble_eq_true rfl) ?_
  intro X_o hXl h_o hr hin
  subst hXl
  obtain ⟨ltA, acA, mnA, sz, rx, N_o, tm, tr, sh, sg, sm, dp, hmd, hI, hrx, hN_o⟩ := hst
  obtain ⟨hwf, hnr, hT6, hmn, hg0, htx⟩ := id hI
  show kG E_o X_o 6 0 0 w_o 0 [(0, .ref (bd 25)), (1, .int (iI x_o)), (2, .int (iI s_o)), (3, .int (iI i_o)), (4, .int (iI j_o))] []
  refine k_aload_n h_o 0 dX7_treesOver_0 rfl rfl ?_
  refine k_iload_n h_o 1 dX7_treesOver_1 rfl rfl ?_
  refine k_iload_n h_o 3 dX7_treesOver_2 rfl rfl ?_
  refine k_callV (As := [.int (iI x_o), .int (iI i_o)]) (rest := []) h_o mX7_isPlace kq_5_51 (c_X7_isPlace hl0 hmd hI (by omega) (by omega)) 19 hmd.1 rfl rfl rfl (Nat.le_of_ble_eq_true rfl) ⟨rfl, rfl, ⟨(Nat.le_of_ble_eq_true rfl), (Nat.le_of_ble_eq_true rfl)⟩, ⟨(Nat.le_of_ble_eq_true rfl), (Nat.le_of_ble_eq_true rfl)⟩⟩ dX7_treesOver_3 (kcI fun z3_o w3_o hp => ?_)
  obtain ⟨rfl, rfl⟩ := hp
  refine k_ifBeq h_o 23 dX7_treesOver_6 (by decide) (fun h6_o => ?_) (fun h6_o => ?_)
  · refine k_iconst h_o dX7_treesOver_23 ?_
    refine k_istore (lv' := [(5, .int (iI 0)), (0, .ref (bd 25)), (1, .int (iI x_o)), (2, .int (iI s_o)), (3, .int (iI i_o)), (4, .int (iI j_o))]) h_o dX7_treesOver_24 (by decide) rfl ?_
    refine k_aload_n h_o 1 dX7_treesOver_26 rfl rfl ?_
    refine k_iload h_o 0 dX7_treesOver_27 rfl ?_
    refine k_ifne h_o 36 (by decide) dX7_treesOver_29 (by decide) (fun h29_o => ?_) (fun h29_o => ?_)
    · exfalso; omega
    · refine k_iconst h_o dX7_treesOver_32 ?_
      refine k_goto h_o 54 dX7_treesOver_33 (by decide) ?_
      refine k_put (fs' := [.ref (bd 0), .ref (bd 1), .ref (bd 2), .ref (bd 3), .ref (bd 4), .ref (bd 5), .ref (bd 6), .int (iI ((nr : Nat) : Int)), .ref (bd 8), .ref (bd 9), .ref (bd 10), .ref (bd 11), .int (iI ((T_o : Nat) : Int)), .long (lI fnd), .int (iI rel), .ref (bd 15), .int (iI sz), .ref (bd 17), .ref (bd 18), .int (iI tm), .ref (bd 20), .ref (bd 21), .int (iI sm), .int (iI dp), .int (iI 1)]) h_o 19 kf_X7_60 kt_X7_24 hmd.1 rfl rfl (Nat.le_of_ble_eq_true rfl) rfl dX7_treesOver_54 ?_
      refine k_aload_n h_o 1 dX7_treesOver_57 rfl rfl ?_
      refine k_get h_o 19 kf_X7_60 kset_eq rfl dX7_treesOver_58 ?_
      refine k_ifle h_o 66 (by decide) dX7_treesOver_61 (by decide) (fun h61_o => ?_) (fun h61_o => ?_)
      · exfalso; omega
      · refine k_iconst h_o dX7_treesOver_64 ?_
        have hmdZ : (kMd ((kset w_o 19 (bd 25) (ob 9 [.ref (bd 0), .ref (bd 1), .ref (bd 2), .ref (bd 3), .ref (bd 4), .ref (bd 5), .ref (bd 6), .int (iI ((nr : Nat) : Int)), .ref (bd 8), .ref (bd 9), .ref (bd 10), .ref (bd 11), .int (iI ((T_o : Nat) : Int)), .long (lI fnd), .int (iI rel), .ref (bd 15), .int (iI sz), .ref (bd 17), .ref (bd 18), .int (iI tm), .ref (bd 20), .ref (bd 21), .int (iI sm), .int (iI dp), .int (iI 1)]))) bd nr g_o T_o cs ams ltA acA mnA rel fnd sz rx N_o tm tr sh sg sm dp 1) := ⟨kset_eq, ((kset_ne (by decide)).trans hmd.2.1), ((kset_ne (by decide)).trans hmd.2.2.1), ((kset_ne (by decide)).trans hmd.2.2.2.1), ((kset_ne (by decide)).trans hmd.2.2.2.2.1), ((kset_ne (by decide)).trans hmd.2.2.2.2.2.1), ((kset_ne (by decide)).trans hmd.2.2.2.2.2.2.1), ((kset_ne (by decide)).trans hmd.2.2.2.2.2.2.2.1), ((kset_ne (by decide)).trans hmd.2.2.2.2.2.2.2.2.1), ((kset_ne (by decide)).trans hmd.2.2.2.2.2.2.2.2.2.1), ((kset_ne (by decide)).trans hmd.2.2.2.2.2.2.2.2.2.2.1), ((kset_ne (by decide)).trans hmd.2.2.2.2.2.2.2.2.2.2.2.1), ((kset_ne (by decide)).trans hmd.2.2.2.2.2.2.2.2.2.2.2.2.1), ((kset_ne (by decide)).trans hmd.2.2.2.2.2.2.2.2.2.2.2.2.2.1), ((kset_ne (by decide)).trans hmd.2.2.2.2.2.2.2.2.2.2.2.2.2.2.1), ((kset_ne (by decide)).trans hmd.2.2.2.2.2.2.2.2.2.2.2.2.2.2.2.1), ((kset_ne (by decide)).trans hmd.2.2.2.2.2.2.2.2.2.2.2.2.2.2.2.2)⟩
        exact k_iret h_o hr rfl (⟨_, rfl, Or.inr (Or.inl ⟨(fun q_o => by first | exact h6_o q_o.1 | exact h16_o q_o.2), ⟨⟨_, _, _, _, _, _, _, _, _, _, _, _, hmdZ, hI, hrx, hN_o⟩, (fun x_o hx => ((kset_ne (by omega)).trans rfl))⟩⟩)⟩) (by omega) (by omega) dX7_treesOver_65
  · refine k_aload_n h_o 0 dX7_treesOver_9 rfl rfl ?_
    refine k_iload_n h_o 1 dX7_treesOver_10 rfl rfl ?_
    refine k_iload h_o 4 dX7_treesOver_11 rfl ?_
    refine k_callV (As := [.int (iI x_o), .int (iI j_o)]) (rest := []) h_o mX7_isPlace kq_5_51 (c_X7_isPlace hl0 hmd hI (by omega) (by omega)) 19 hmd.1 rfl rfl rfl (Nat.le_of_ble_eq_true rfl) ⟨rfl, rfl, ⟨(Nat.le_of_ble_eq_true rfl), (Nat.le_of_ble_eq_true rfl)⟩, ⟨(Nat.le_of_ble_eq_true rfl), (Nat.le_of_ble_eq_true rfl)⟩⟩ dX7_treesOver_13 (kcI fun z13_o w13_o hp => ?_)
    obtain ⟨rfl, rfl⟩ := hp
    refine k_ifBeq h_o 23 dX7_treesOver_16 (by decide) (fun h16_o => ?_) (fun h16_o => ?_)
    · refine k_iconst h_o dX7_treesOver_23 ?_
      refine k_istore (lv' := [(5, .int (iI 0)), (0, .ref (bd 25)), (1, .int (iI x_o)), (2, .int (iI s_o)), (3, .int (iI i_o)), (4, .int (iI j_o))]) h_o dX7_treesOver_24 (by decide) rfl ?_
      refine k_aload_n h_o 1 dX7_treesOver_26 rfl rfl ?_
      refine k_iload h_o 0 dX7_treesOver_27 rfl ?_
      refine k_ifne h_o 36 (by decide) dX7_treesOver_29 (by decide) (fun h29_o => ?_) (fun h29_o => ?_)
      · exfalso; omega
      · refine k_iconst h_o dX7_treesOver_32 ?_
        refine k_goto h_o 54 dX7_treesOver_33 (by decide) ?_
        refine k_put (fs' := [.ref (bd 0), .ref (bd 1), .ref (bd 2), .ref (bd 3), .ref (bd 4), .ref (bd 5), .ref (bd 6), .int (iI ((nr : Nat) : Int)), .ref (bd 8), .ref (bd 9), .ref (bd 10), .ref (bd 11), .int (iI ((T_o : Nat) : Int)), .long (lI fnd), .int (iI rel), .ref (bd 15), .int (iI sz), .ref (bd 17), .ref (bd 18), .int (iI tm), .ref (bd 20), .ref (bd 21), .int (iI sm), .int (iI dp), .int (iI 1)]) h_o 19 kf_X7_60 kt_X7_24 hmd.1 rfl rfl (Nat.le_of_ble_eq_true rfl) rfl dX7_treesOver_54 ?_
        refine k_aload_n h_o 1 dX7_treesOver_57 rfl rfl ?_
        refine k_get h_o 19 kf_X7_60 kset_eq rfl dX7_treesOver_58 ?_
        refine k_ifle h_o 66 (by decide) dX7_treesOver_61 (by decide) (fun h61_o => ?_) (fun h61_o => ?_)
        · exfalso; omega
        · refine k_iconst h_o dX7_treesOver_64 ?_
          have hmdZ : (kMd ((kset w_o 19 (bd 25) (ob 9 [.ref (bd 0), .ref (bd 1), .ref (bd 2), .ref (bd 3), .ref (bd 4), .ref (bd 5), .ref (bd 6), .int (iI ((nr : Nat) : Int)), .ref (bd 8), .ref (bd 9), .ref (bd 10), .ref (bd 11), .int (iI ((T_o : Nat) : Int)), .long (lI fnd), .int (iI rel), .ref (bd 15), .int (iI sz), .ref (bd 17), .ref (bd 18), .int (iI tm), .ref (bd 20), .ref (bd 21), .int (iI sm), .int (iI dp), .int (iI 1)]))) bd nr g_o T_o cs ams ltA acA mnA rel fnd sz rx N_o tm tr sh sg sm dp 1) := ⟨kset_eq, ((kset_ne (by decide)).trans hmd.2.1), ((kset_ne (by decide)).trans hmd.2.2.1), ((kset_ne (by decide)).trans hmd.2.2.2.1), ((kset_ne (by decide)).trans hmd.2.2.2.2.1), ((kset_ne (by decide)).trans hmd.2.2.2.2.2.1), ((kset_ne (by decide)).trans hmd.2.2.2.2.2.2.1), ((kset_ne (by decide)).trans hmd.2.2.2.2.2.2.2.1), ((kset_ne (by decide)).trans hmd.2.2.2.2.2.2.2.2.1), ((kset_ne (by decide)).trans hmd.2.2.2.2.2.2.2.2.2.1), ((kset_ne (by decide)).trans hmd.2.2.2.2.2.2.2.2.2.2.1), ((kset_ne (by decide)).trans hmd.2.2.2.2.2.2.2.2.2.2.2.1), ((kset_ne (by decide)).trans hmd.2.2.2.2.2.2.2.2.2.2.2.2.1), ((kset_ne (by decide)).trans hmd.2.2.2.2.2.2.2.2.2.2.2.2.2.1), ((kset_ne (by decide)).trans hmd.2.2.2.2.2.2.2.2.2.2.2.2.2.2.1), ((kset_ne (by decide)).trans hmd.2.2.2.2.2.2.2.2.2.2.2.2.2.2.2.1), ((kset_ne (by decide)).trans hmd.2.2.2.2.2.2.2.2.2.2.2.2.2.2.2.2)⟩
          exact k_iret h_o hr rfl (⟨_, rfl, Or.inr (Or.inl ⟨(fun q_o => by first | exact h6_o q_o.1 | exact h16_o q_o.2), ⟨⟨_, _, _, _, _, _, _, _, _, _, _, _, hmdZ, hI, hrx, hN_o⟩, (fun x_o hx => ((kset_ne (by omega)).trans rfl))⟩⟩)⟩) (by omega) (by omega) dX7_treesOver_65
    · refine k_iconst h_o dX7_treesOver_19 ?_
      refine k_goto h_o 24 dX7_treesOver_20 (by decide) ?_
      refine k_istore (lv' := [(5, .int (iI 1)), (0, .ref (bd 25)), (1, .int (iI x_o)), (2, .int (iI s_o)), (3, .int (iI i_o)), (4, .int (iI j_o))]) h_o dX7_treesOver_24 (by decide) rfl ?_
      refine k_aload_n h_o 1 dX7_treesOver_26 rfl rfl ?_
      refine k_iload h_o 0 dX7_treesOver_27 rfl ?_
      refine k_ifne h_o 36 (by decide) dX7_treesOver_29 (by decide) (fun h29_o => ?_) (fun h29_o => ?_)
      · obtain ⟨hlx, hcx, hax, hacx, hltx, hacAx⟩ := htx x_o.toNat (by omega)
        refine k_iload_n h_o 3 dX7_treesOver_36 rfl rfl ?_
        refine k_callS (As := [.int (iI s_o)]) (rest := [.ref (bd 25)]) h_o mX7_isName kq_4_211 (c_X7_isName hl0 (by omega)) rfl rfl (Nat.le_of_ble_eq_true rfl) ⟨rfl, rfl, ⟨(Nat.le_of_ble_eq_true rfl), (Nat.le_of_ble_eq_true rfl)⟩, ⟨(Nat.le_of_ble_eq_true rfl), (Nat.le_of_ble_eq_true rfl)⟩⟩ dX7_treesOver_37 (kcI fun z37_o w37_o hp => ?_)
        obtain ⟨rfl, rfl⟩ := hp
        refine k_ifBeq h_o 49 dX7_treesOver_40 (by decide) (fun h40_o => ?_) (fun h40_o => ?_)
        · refine k_iconst h_o dX7_treesOver_49 ?_
          refine k_goto h_o 54 dX7_treesOver_50 (by decide) ?_
          refine k_put (fs' := [.ref (bd 0), .ref (bd 1), .ref (bd 2), .ref (bd 3), .ref (bd 4), .ref (bd 5), .ref (bd 6), .int (iI ((nr : Nat) : Int)), .ref (bd 8), .ref (bd 9), .ref (bd 10), .ref (bd 11), .int (iI ((T_o : Nat) : Int)), .long (lI fnd), .int (iI rel), .ref (bd 15), .int (iI sz), .ref (bd 17), .ref (bd 18), .int (iI tm), .ref (bd 20), .ref (bd 21), .int (iI sm), .int (iI dp), .int (iI 2)]) h_o 19 kf_X7_60 kt_X7_24 hmd.1 rfl rfl (Nat.le_of_ble_eq_true rfl) rfl dX7_treesOver_54 ?_
          refine k_aload_n h_o 1 dX7_treesOver_57 rfl rfl ?_
          refine k_get h_o 19 kf_X7_60 kset_eq rfl dX7_treesOver_58 ?_
          refine k_ifle h_o 66 (by decide) dX7_treesOver_61 (by decide) (fun h61_o => ?_) (fun h61_o => ?_)
          · exfalso; omega
          · refine k_iconst h_o dX7_treesOver_64 ?_
            have hmdZ : (kMd ((kset w_o 19 (bd 25) (ob 9 [.ref (bd 0), .ref (bd 1), .ref (bd 2), .ref (bd 3), .ref (bd 4), .ref (bd 5), .ref (bd 6), .int (iI ((nr : Nat) : Int)), .ref (bd 8), .ref (bd 9), .ref (bd 10), .ref (bd 11), .int (iI ((T_o : Nat) : Int)), .long (lI fnd), .int (iI rel), .ref (bd 15), .int (iI sz), .ref (bd 17), .ref (bd 18), .int (iI tm), .ref (bd 20), .ref (bd 21), .int (iI sm), .int (iI dp), .int (iI 2)]))) bd nr g_o T_o cs ams ltA acA mnA rel fnd sz rx N_o tm tr sh sg sm dp 2) := ⟨kset_eq, ((kset_ne (by decide)).trans hmd.2.1), ((kset_ne (by decide)).trans hmd.2.2.1), ((kset_ne (by decide)).trans hmd.2.2.2.1), ((kset_ne (by decide)).trans hmd.2.2.2.2.1), ((kset_ne (by decide)).trans hmd.2.2.2.2.2.1), ((kset_ne (by decide)).trans hmd.2.2.2.2.2.2.1), ((kset_ne (by decide)).trans hmd.2.2.2.2.2.2.2.1), ((kset_ne (by decide)).trans hmd.2.2.2.2.2.2.2.2.1), ((kset_ne (by decide)).trans hmd.2.2.2.2.2.2.2.2.2.1), ((kset_ne (by decide)).trans hmd.2.2.2.2.2.2.2.2.2.2.1), ((kset_ne (by decide)).trans hmd.2.2.2.2.2.2.2.2.2.2.2.1), ((kset_ne (by decide)).trans hmd.2.2.2.2.2.2.2.2.2.2.2.2.1), ((kset_ne (by decide)).trans hmd.2.2.2.2.2.2.2.2.2.2.2.2.2.1), ((kset_ne (by decide)).trans hmd.2.2.2.2.2.2.2.2.2.2.2.2.2.2.1), ((kset_ne (by decide)).trans hmd.2.2.2.2.2.2.2.2.2.2.2.2.2.2.2.1), ((kset_ne (by decide)).trans hmd.2.2.2.2.2.2.2.2.2.2.2.2.2.2.2.2)⟩
            exact k_iret h_o hr rfl (⟨_, rfl, Or.inr (Or.inr ⟨⟨⟨h6_o, h16_o⟩, (by omega)⟩, ⟨⟨_, _, _, _, _, _, _, _, _, _, _, _, hmdZ, hI, hrx, hN_o⟩, (fun x_o hx => ((kset_ne (by omega)).trans rfl))⟩⟩)⟩) (by omega) (by omega) dX7_treesOver_65
        · refine k_iload h_o 5 dX7_treesOver_43 rfl ?_
          refine k_iload_n h_o 4 dX7_treesOver_45 rfl rfl ?_
          refine k_icmp_ge h_o 53 (by omega) (by omega) dX7_treesOver_46 (by decide) (fun h46_o => ?_) (fun h46_o => ?_)
          · refine k_iconst h_o dX7_treesOver_53 ?_
            refine k_put (fs' := [.ref (bd 0), .ref (bd 1), .ref (bd 2), .ref (bd 3), .ref (bd 4), .ref (bd 5), .ref (bd 6), .int (iI ((nr : Nat) : Int)), .ref (bd 8), .ref (bd 9), .ref (bd 10), .ref (bd 11), .int (iI ((T_o : Nat) : Int)), .long (lI fnd), .int (iI rel), .ref (bd 15), .int (iI sz), .ref (bd 17), .ref (bd 18), .int (iI tm), .ref (bd 20), .ref (bd 21), .int (iI sm), .int (iI dp), .int (iI 0)]) h_o 19 kf_X7_60 kt_X7_24 hmd.1 rfl rfl (Nat.le_of_ble_eq_true rfl) rfl dX7_treesOver_54 ?_
            refine k_aload_n h_o 1 dX7_treesOver_57 rfl rfl ?_
            refine k_get h_o 19 kf_X7_60 kset_eq rfl dX7_treesOver_58 ?_
            refine k_ifle h_o 66 (by decide) dX7_treesOver_61 (by decide) (fun h61_o => ?_) (fun h61_o => ?_)
            · refine k_aload_n h_o 1 dX7_treesOver_66 rfl rfl ?_
              refine k_iload_n h_o 2 dX7_treesOver_67 rfl rfl ?_
              refine k_callV (As := [.int (iI x_o)]) (rest := []) h_o mX7_laysText kq_5_24 (c_X7_laysText hl0 ⟨kset_eq, ((kset_ne (by decide)).trans hmd.2.1), ((kset_ne (by decide)).trans hmd.2.2.1), ((kset_ne (by decide)).trans hmd.2.2.2.1), ((kset_ne (by decide)).trans hmd.2.2.2.2.1), ((kset_ne (by decide)).trans hmd.2.2.2.2.2.1), ((kset_ne (by decide)).trans hmd.2.2.2.2.2.2.1), ((kset_ne (by decide)).trans hmd.2.2.2.2.2.2.2.1), ((kset_ne (by decide)).trans hmd.2.2.2.2.2.2.2.2.1), ((kset_ne (by decide)).trans hmd.2.2.2.2.2.2.2.2.2.1), ((kset_ne (by decide)).trans hmd.2.2.2.2.2.2.2.2.2.2.1), ((kset_ne (by decide)).trans hmd.2.2.2.2.2.2.2.2.2.2.2.1), ((kset_ne (by decide)).trans hmd.2.2.2.2.2.2.2.2.2.2.2.2.1), ((kset_ne (by decide)).trans hmd.2.2.2.2.2.2.2.2.2.2.2.2.2.1), ((kset_ne (by decide)).trans hmd.2.2.2.2.2.2.2.2.2.2.2.2.2.2.1), ((kset_ne (by decide)).trans hmd.2.2.2.2.2.2.2.2.2.2.2.2.2.2.2.1), ((kset_ne (by decide)).trans hmd.2.2.2.2.2.2.2.2.2.2.2.2.2.2.2.2)⟩ hI hrx hN_o (by omega)) 19 kset_eq rfl rfl rfl (Nat.le_of_ble_eq_true rfl) ⟨rfl, rfl, ⟨(Nat.le_of_ble_eq_true rfl), (Nat.le_of_ble_eq_true rfl)⟩, ⟨(Nat.le_of_ble_eq_true rfl), (Nat.le_of_ble_eq_true rfl)⟩⟩ dX7_treesOver_68 (kcI fun z68_o wq23 hp => ?_)
              obtain ⟨rfl, rxq23, Nq23, hmdq23, hrxq23, hrowq23, hNq23, hTrq23, hexq23⟩ := hp
              refine k_pop h_o dX7_treesOver_71 rfl ?_
              refine k_aload_n h_o 1 dX7_treesOver_72 rfl rfl ?_
              refine k_iload_n h_o 3 dX7_treesOver_73 rfl rfl ?_
              refine k_iload_n h_o 4 dX7_treesOver_74 rfl rfl ?_
              refine k_iload h_o 5 dX7_treesOver_75 rfl ?_
              refine k_callV (As := [.int (iI s_o), .int (iI i_o), .int (iI j_o)]) (rest := []) h_o mX7_part kq_5_36 (c_X7_part hl0 hmdq23 hrxq23 (by omega) (by omega) (by omega)) 19 hmdq23.1 rfl rfl rfl (Nat.le_of_ble_eq_true rfl) ⟨rfl, rfl, ⟨(Nat.le_of_ble_eq_true rfl), (Nat.le_of_ble_eq_true rfl)⟩, ⟨(Nat.le_of_ble_eq_true rfl), (Nat.le_of_ble_eq_true rfl)⟩⟩ dX7_treesOver_77 (kcI fun z77_o w77_o hp => ?_)
              obtain ⟨rfl, rfl⟩ := hp
              have hmdZ : (kMd wq23 bd nr g_o T_o cs ams ltA acA mnA rel fnd (cs x_o.toNat) rxq23 Nq23 tm tr sh sg sm dp 0) := ⟨hmdq23.1, hmdq23.2.1, hmdq23.2.2.1, hmdq23.2.2.2.1, hmdq23.2.2.2.2.1, hmdq23.2.2.2.2.2.1, hmdq23.2.2.2.2.2.2.1, hmdq23.2.2.2.2.2.2.2.1, hmdq23.2.2.2.2.2.2.2.2.1, hmdq23.2.2.2.2.2.2.2.2.2.1, hmdq23.2.2.2.2.2.2.2.2.2.2.1, hmdq23.2.2.2.2.2.2.2.2.2.2.2.1, hmdq23.2.2.2.2.2.2.2.2.2.2.2.2.1, hmdq23.2.2.2.2.2.2.2.2.2.2.2.2.2.1, hmdq23.2.2.2.2.2.2.2.2.2.2.2.2.2.2.1, hmdq23.2.2.2.2.2.2.2.2.2.2.2.2.2.2.2.1, hmdq23.2.2.2.2.2.2.2.2.2.2.2.2.2.2.2.2⟩
              exact k_iret h_o hr rfl (⟨_, rfl, Or.inl ⟨⟨⟨h6_o, h16_o⟩, h40_o, (by omega)⟩, (by rw [m_part_N h40_o, hTrq23 s_o i_o j_o h40_o (by omega) (by omega) (by omega)]; exact congrArg (fun n_o : Nat => (n_o : Int)) (m_TT_row (by omega) (fun q_o q1 q2 => (hrowq23 q_o.toNat (by omega)).symm))), ⟨⟨_, _, _, _, _, _, _, _, _, _, _, _, hmdZ, hI, hrxq23, hNq23⟩, (fun x_o hx => ((hexq23 x_o hx).trans ((kset_ne (by omega)).trans rfl)))⟩⟩⟩) (by omega) (by omega) dX7_treesOver_80
            · exfalso; omega
          · refine k_iconst h_o dX7_treesOver_49 ?_
            refine k_goto h_o 54 dX7_treesOver_50 (by decide) ?_
            refine k_put (fs' := [.ref (bd 0), .ref (bd 1), .ref (bd 2), .ref (bd 3), .ref (bd 4), .ref (bd 5), .ref (bd 6), .int (iI ((nr : Nat) : Int)), .ref (bd 8), .ref (bd 9), .ref (bd 10), .ref (bd 11), .int (iI ((T_o : Nat) : Int)), .long (lI fnd), .int (iI rel), .ref (bd 15), .int (iI sz), .ref (bd 17), .ref (bd 18), .int (iI tm), .ref (bd 20), .ref (bd 21), .int (iI sm), .int (iI dp), .int (iI 2)]) h_o 19 kf_X7_60 kt_X7_24 hmd.1 rfl rfl (Nat.le_of_ble_eq_true rfl) rfl dX7_treesOver_54 ?_
            refine k_aload_n h_o 1 dX7_treesOver_57 rfl rfl ?_
            refine k_get h_o 19 kf_X7_60 kset_eq rfl dX7_treesOver_58 ?_
            refine k_ifle h_o 66 (by decide) dX7_treesOver_61 (by decide) (fun h61_o => ?_) (fun h61_o => ?_)
            · exfalso; omega
            · refine k_iconst h_o dX7_treesOver_64 ?_
              have hmdZ : (kMd ((kset w_o 19 (bd 25) (ob 9 [.ref (bd 0), .ref (bd 1), .ref (bd 2), .ref (bd 3), .ref (bd 4), .ref (bd 5), .ref (bd 6), .int (iI ((nr : Nat) : Int)), .ref (bd 8), .ref (bd 9), .ref (bd 10), .ref (bd 11), .int (iI ((T_o : Nat) : Int)), .long (lI fnd), .int (iI rel), .ref (bd 15), .int (iI sz), .ref (bd 17), .ref (bd 18), .int (iI tm), .ref (bd 20), .ref (bd 21), .int (iI sm), .int (iI dp), .int (iI 2)]))) bd nr g_o T_o cs ams ltA acA mnA rel fnd sz rx N_o tm tr sh sg sm dp 2) := ⟨kset_eq, ((kset_ne (by decide)).trans hmd.2.1), ((kset_ne (by decide)).trans hmd.2.2.1), ((kset_ne (by decide)).trans hmd.2.2.2.1), ((kset_ne (by decide)).trans hmd.2.2.2.2.1), ((kset_ne (by decide)).trans hmd.2.2.2.2.2.1), ((kset_ne (by decide)).trans hmd.2.2.2.2.2.2.1), ((kset_ne (by decide)).trans hmd.2.2.2.2.2.2.2.1), ((kset_ne (by decide)).trans hmd.2.2.2.2.2.2.2.2.1), ((kset_ne (by decide)).trans hmd.2.2.2.2.2.2.2.2.2.1), ((kset_ne (by decide)).trans hmd.2.2.2.2.2.2.2.2.2.2.1), ((kset_ne (by decide)).trans hmd.2.2.2.2.2.2.2.2.2.2.2.1), ((kset_ne (by decide)).trans hmd.2.2.2.2.2.2.2.2.2.2.2.2.1), ((kset_ne (by decide)).trans hmd.2.2.2.2.2.2.2.2.2.2.2.2.2.1), ((kset_ne (by decide)).trans hmd.2.2.2.2.2.2.2.2.2.2.2.2.2.2.1), ((kset_ne (by decide)).trans hmd.2.2.2.2.2.2.2.2.2.2.2.2.2.2.2.1), ((kset_ne (by decide)).trans hmd.2.2.2.2.2.2.2.2.2.2.2.2.2.2.2.2)⟩
              exact k_iret h_o hr rfl (⟨_, rfl, Or.inr (Or.inr ⟨⟨⟨h6_o, h16_o⟩, (by omega)⟩, ⟨⟨_, _, _, _, _, _, _, _, _, _, _, _, hmdZ, hI, hrx, hN_o⟩, (fun x_o hx => ((kset_ne (by omega)).trans rfl))⟩⟩)⟩) (by omega) (by omega) dX7_treesOver_65
      · exfalso; omega

set_option maxHeartbeats 4000000 in
set_option maxRecDepth 100000 in
theorem c_X7_size {E_o : kE} {l_o : Launch} (hl0 : l_o.stackTraces = false) {w_o : kW} {bd : Nat → Nat} {nr : Nat} {g_o : Nat → Nat → Int} {T_o : Nat} {lts : Nat → Nat → Int} {cs : Nat → Int} {acs : Nat → Nat → Int} {ams : Nat → Int} {rel fnd th : Int} {x_o : Int} (hst : kMu w_o bd nr g_o T_o lts cs acs ams rel fnd th) (hx : -2147483648 ≤ x_o ∧ x_o < 2147483648) : kM E_o l_o yX7_size (.code yX7_size cX7_size 2 (some .int) :: kAL) { frames := 301, cells := 0, slots := 0, locals := 6023 } 0 0 [.ref (bd 25), .int (iI x_o)] w_o (pI (fun z_o w2_o => ((0 ≤ x_o ∧ x_o < ((T_o : Nat) : Int)) ∧ (m_lay g_o nr (lts x_o.toNat) (cs x_o.toNat) kO0).1 = z_o ∧ kMv w_o w2_o bd nr g_o T_o lts cs acs ams rel fnd 0) ∨ (¬ (0 ≤ x_o ∧ x_o < ((T_o : Nat) : Int)) ∧ kMv w_o w2_o bd nr g_o T_o lts cs acs ams rel fnd 1))) := by
  refine kM_of hl0 (by decide +kernel) (Nat.le_of_ble_eq_true rfl) ?_
  intro X_o hXl h_o hr hin
  subst hXl
  obtain ⟨ltA, acA, mnA, sz, rx, N_o, tm, tr, sh, sg, sm, dp, hmd, hI, hrx, hN_o⟩ := hst
  obtain ⟨hwf, hnr, hT6, hmn, hg0, htx⟩ := id hI
  show kG E_o X_o 2 0 0 w_o 0 [(0, .ref (bd 25)), (1, .int (iI x_o))] []
  refine k_aload_n h_o 0 dX7_size_0 rfl rfl ?_
  refine k_iload_n h_o 1 dX7_size_1 rfl rfl ?_
  refine k_callV (As := [.int (iI x_o)]) (rest := []) h_o mX7_asks kq_5_59 (c_X7_asks hl0 hmd hT6 (by omega)) 19 hmd.1 rfl rfl rfl (Nat.le_of_ble_eq_true rfl) ⟨rfl, rfl, ⟨(Nat.le_of_ble_eq_true rfl), (Nat.le_of_ble_eq_true rfl)⟩, ⟨(Nat.le_of_ble_eq_true rfl), (Nat.le_of_ble_eq_true rfl)⟩⟩ dX7_size_2 (kcI fun zq24 wq24 hp => ?_)
  rcases hp with ⟨hxT, rfl, hmdq24, hexq24⟩ | ⟨hxT, rfl, hmdq24, hexq24⟩
  · refine k_ifne h_o 10 (by decide) dX7_size_5 (by decide) (fun h5_o => ?_) (fun h5_o => ?_)
    · refine k_aload_n h_o 0 dX7_size_10 rfl rfl ?_
      refine k_iload_n h_o 1 dX7_size_11 rfl rfl ?_
      refine k_callV (As := [.int (iI x_o)]) (rest := []) h_o mX7_walksText kq_5_83 (c_X7_walksText hl0 hmdq24 hI hrx hN_o (by omega)) 19 hmdq24.1 rfl rfl rfl (Nat.le_of_ble_eq_true rfl) ⟨rfl, rfl, ⟨(Nat.le_of_ble_eq_true rfl), (Nat.le_of_ble_eq_true rfl)⟩, ⟨(Nat.le_of_ble_eq_true rfl), (Nat.le_of_ble_eq_true rfl)⟩⟩ dX7_size_12 (kcI fun z12_o wq25 hp => ?_)
      obtain ⟨rfl, rxq25, Nq25, tmq25, trq25, shq25, sgq25, smq25, dpq25, hmdq25, hrxq25, hNq25, hswq25, hexq25⟩ := hp
      refine k_pop h_o dX7_size_15 rfl ?_
      refine k_aload_n h_o 0 dX7_size_16 rfl rfl ?_
      refine k_get h_o 19 kf_X7_115 hmdq25.1 rfl dX7_size_17 ?_
      have hmdZ : (kMd wq25 bd nr g_o T_o cs ams ltA acA mnA rel fnd (cs x_o.toNat) rxq25 Nq25 tmq25 trq25 shq25 sgq25 smq25 dpq25 0) := ⟨hmdq25.1, hmdq25.2.1, hmdq25.2.2.1, hmdq25.2.2.2.1, hmdq25.2.2.2.2.1, hmdq25.2.2.2.2.2.1, hmdq25.2.2.2.2.2.2.1, hmdq25.2.2.2.2.2.2.2.1, hmdq25.2.2.2.2.2.2.2.2.1, hmdq25.2.2.2.2.2.2.2.2.2.1, hmdq25.2.2.2.2.2.2.2.2.2.2.1, hmdq25.2.2.2.2.2.2.2.2.2.2.2.1, hmdq25.2.2.2.2.2.2.2.2.2.2.2.2.1, hmdq25.2.2.2.2.2.2.2.2.2.2.2.2.2.1, hmdq25.2.2.2.2.2.2.2.2.2.2.2.2.2.2.1, hmdq25.2.2.2.2.2.2.2.2.2.2.2.2.2.2.2.1, hmdq25.2.2.2.2.2.2.2.2.2.2.2.2.2.2.2.2⟩
      exact k_iret h_o hr rfl (⟨_, rfl, Or.inl ⟨hxT, hswq25.1.1.symm, ⟨⟨_, _, _, _, _, _, _, _, _, _, _, _, hmdZ, hI, hrxq25, hNq25⟩, (fun x_o hx => ((hexq25 x_o hx).trans (hexq24 x_o hx)))⟩⟩⟩) (by omega) (by omega) dX7_size_20
    · exfalso; omega
  · refine k_ifne h_o 10 (by decide) dX7_size_5 (by decide) (fun h5_o => ?_) (fun h5_o => ?_)
    · exfalso; omega
    · refine k_iconst h_o dX7_size_8 ?_
      have hmdZ : (kMd wq24 bd nr g_o T_o cs ams ltA acA mnA rel fnd sz rx N_o tm tr sh sg sm dp 1) := ⟨hmdq24.1, hmdq24.2.1, hmdq24.2.2.1, hmdq24.2.2.2.1, hmdq24.2.2.2.2.1, hmdq24.2.2.2.2.2.1, hmdq24.2.2.2.2.2.2.1, hmdq24.2.2.2.2.2.2.2.1, hmdq24.2.2.2.2.2.2.2.2.1, hmdq24.2.2.2.2.2.2.2.2.2.1, hmdq24.2.2.2.2.2.2.2.2.2.2.1, hmdq24.2.2.2.2.2.2.2.2.2.2.2.1, hmdq24.2.2.2.2.2.2.2.2.2.2.2.2.1, hmdq24.2.2.2.2.2.2.2.2.2.2.2.2.2.1, hmdq24.2.2.2.2.2.2.2.2.2.2.2.2.2.2.1, hmdq24.2.2.2.2.2.2.2.2.2.2.2.2.2.2.2.1, hmdq24.2.2.2.2.2.2.2.2.2.2.2.2.2.2.2.2⟩
      exact k_iret h_o hr rfl (⟨_, rfl, Or.inr ⟨hxT, ⟨⟨_, _, _, _, _, _, _, _, _, _, _, _, hmdZ, hI, hrx, hN_o⟩, (fun x_o hx => (hexq24 x_o hx))⟩⟩⟩) (by omega) (by omega) dX7_size_9

set_option maxHeartbeats 4000000 in
set_option maxRecDepth 100000 in
theorem c_X7_depth {E_o : kE} {l_o : Launch} (hl0 : l_o.stackTraces = false) {w_o : kW} {bd : Nat → Nat} {nr : Nat} {g_o : Nat → Nat → Int} {T_o : Nat} {lts : Nat → Nat → Int} {cs : Nat → Int} {acs : Nat → Nat → Int} {ams : Nat → Int} {rel fnd th : Int} {x_o : Int} (hst : kMu w_o bd nr g_o T_o lts cs acs ams rel fnd th) (hx : -2147483648 ≤ x_o ∧ x_o < 2147483648) : kM E_o l_o yX7_depth (.code yX7_depth cX7_depth 2 (some .int) :: kAL) { frames := 301, cells := 0, slots := 0, locals := 6023 } 0 0 [.ref (bd 25), .int (iI x_o)] w_o (pI (fun z_o w2_o => ((0 ≤ x_o ∧ x_o < ((T_o : Nat) : Int)) ∧ (m_lay g_o nr (lts x_o.toNat) (cs x_o.toNat) kO0).2.2.2.2.1 = z_o ∧ kMv w_o w2_o bd nr g_o T_o lts cs acs ams rel fnd 0) ∨ (¬ (0 ≤ x_o ∧ x_o < ((T_o : Nat) : Int)) ∧ kMv w_o w2_o bd nr g_o T_o lts cs acs ams rel fnd 1))) := by
  refine kM_of hl0 (by decide +kernel) (Nat.le_of_ble_eq_true rfl) ?_
  intro X_o hXl h_o hr hin
  subst hXl
  obtain ⟨ltA, acA, mnA, sz, rx, N_o, tm, tr, sh, sg, sm, dp, hmd, hI, hrx, hN_o⟩ := hst
  obtain ⟨hwf, hnr, hT6, hmn, hg0, htx⟩ := id hI
  show kG E_o X_o 2 0 0 w_o 0 [(0, .ref (bd 25)), (1, .int (iI x_o))] []
  refine k_aload_n h_o 0 dX7_depth_0 rfl rfl ?_
  refine k_iload_n h_o 1 dX7_depth_1 rfl rfl ?_
  refine k_callV (As := [.int (iI x_o)]) (rest := []) h_o mX7_asks kq_5_59 (c_X7_asks hl0 hmd hT6 (by omega)) 19 hmd.1 rfl rfl rfl (Nat.le_of_ble_eq_true rfl) ⟨rfl, rfl, ⟨(Nat.le_of_ble_eq_true rfl), (Nat.le_of_ble_eq_true rfl)⟩, ⟨(Nat.le_of_ble_eq_true rfl), (Nat.le_of_ble_eq_true rfl)⟩⟩ dX7_depth_2 (kcI fun zq26 wq26 hp => ?_)
  rcases hp with ⟨hxT, rfl, hmdq26, hexq26⟩ | ⟨hxT, rfl, hmdq26, hexq26⟩
  · refine k_ifne h_o 10 (by decide) dX7_depth_5 (by decide) (fun h5_o => ?_) (fun h5_o => ?_)
    · refine k_aload_n h_o 0 dX7_depth_10 rfl rfl ?_
      refine k_iload_n h_o 1 dX7_depth_11 rfl rfl ?_
      refine k_callV (As := [.int (iI x_o)]) (rest := []) h_o mX7_walksText kq_5_83 (c_X7_walksText hl0 hmdq26 hI hrx hN_o (by omega)) 19 hmdq26.1 rfl rfl rfl (Nat.le_of_ble_eq_true rfl) ⟨rfl, rfl, ⟨(Nat.le_of_ble_eq_true rfl), (Nat.le_of_ble_eq_true rfl)⟩, ⟨(Nat.le_of_ble_eq_true rfl), (Nat.le_of_ble_eq_true rfl)⟩⟩ dX7_depth_12 (kcI fun z12_o wq27 hp => ?_)
      obtain ⟨rfl, rxq27, Nq27, tmq27, trq27, shq27, sgq27, smq27, dpq27, hmdq27, hrxq27, hNq27, hswq27, hexq27⟩ := hp
      refine k_pop h_o dX7_depth_15 rfl ?_
      refine k_aload_n h_o 0 dX7_depth_16 rfl rfl ?_
      refine k_get h_o 19 kf_X7_118 hmdq27.1 rfl dX7_depth_17 ?_
      have hmdZ : (kMd wq27 bd nr g_o T_o cs ams ltA acA mnA rel fnd (cs x_o.toNat) rxq27 Nq27 tmq27 trq27 shq27 sgq27 smq27 dpq27 0) := ⟨hmdq27.1, hmdq27.2.1, hmdq27.2.2.1, hmdq27.2.2.2.1, hmdq27.2.2.2.2.1, hmdq27.2.2.2.2.2.1, hmdq27.2.2.2.2.2.2.1, hmdq27.2.2.2.2.2.2.2.1, hmdq27.2.2.2.2.2.2.2.2.1, hmdq27.2.2.2.2.2.2.2.2.2.1, hmdq27.2.2.2.2.2.2.2.2.2.2.1, hmdq27.2.2.2.2.2.2.2.2.2.2.2.1, hmdq27.2.2.2.2.2.2.2.2.2.2.2.2.1, hmdq27.2.2.2.2.2.2.2.2.2.2.2.2.2.1, hmdq27.2.2.2.2.2.2.2.2.2.2.2.2.2.2.1, hmdq27.2.2.2.2.2.2.2.2.2.2.2.2.2.2.2.1, hmdq27.2.2.2.2.2.2.2.2.2.2.2.2.2.2.2.2⟩
      exact k_iret h_o hr rfl (⟨_, rfl, Or.inl ⟨hxT, hswq27.2.1.symm, ⟨⟨_, _, _, _, _, _, _, _, _, _, _, _, hmdZ, hI, hrxq27, hNq27⟩, (fun x_o hx => ((hexq27 x_o hx).trans (hexq26 x_o hx)))⟩⟩⟩) (by omega) (by omega) dX7_depth_20
    · exfalso; omega
  · refine k_ifne h_o 10 (by decide) dX7_depth_5 (by decide) (fun h5_o => ?_) (fun h5_o => ?_)
    · exfalso; omega
    · refine k_iconst h_o dX7_depth_8 ?_
      have hmdZ : (kMd wq26 bd nr g_o T_o cs ams ltA acA mnA rel fnd sz rx N_o tm tr sh sg sm dp 1) := ⟨hmdq26.1, hmdq26.2.1, hmdq26.2.2.1, hmdq26.2.2.2.1, hmdq26.2.2.2.2.1, hmdq26.2.2.2.2.2.1, hmdq26.2.2.2.2.2.2.1, hmdq26.2.2.2.2.2.2.2.1, hmdq26.2.2.2.2.2.2.2.2.1, hmdq26.2.2.2.2.2.2.2.2.2.1, hmdq26.2.2.2.2.2.2.2.2.2.2.1, hmdq26.2.2.2.2.2.2.2.2.2.2.2.1, hmdq26.2.2.2.2.2.2.2.2.2.2.2.2.1, hmdq26.2.2.2.2.2.2.2.2.2.2.2.2.2.1, hmdq26.2.2.2.2.2.2.2.2.2.2.2.2.2.2.1, hmdq26.2.2.2.2.2.2.2.2.2.2.2.2.2.2.2.1, hmdq26.2.2.2.2.2.2.2.2.2.2.2.2.2.2.2.2⟩
      exact k_iret h_o hr rfl (⟨_, rfl, Or.inr ⟨hxT, ⟨⟨_, _, _, _, _, _, _, _, _, _, _, _, hmdZ, hI, hrx, hN_o⟩, (fun x_o hx => (hexq26 x_o hx))⟩⟩⟩) (by omega) (by omega) dX7_depth_9

set_option maxHeartbeats 4000000 in
set_option maxRecDepth 100000 in
theorem c_X7_formatted {E_o : kE} {l_o : Launch} (hl0 : l_o.stackTraces = false) {w_o : kW} {bd : Nat → Nat} {nr : Nat} {g_o : Nat → Nat → Int} {T_o : Nat} {lts : Nat → Nat → Int} {cs : Nat → Int} {acs : Nat → Nat → Int} {ams : Nat → Int} {rel fnd th : Int} {x_o : Int} (hst : kMu w_o bd nr g_o T_o lts cs acs ams rel fnd th) (hx : -2147483648 ≤ x_o ∧ x_o < 2147483648) : kM E_o l_o yX7_formatted (.code yX7_formatted cX7_formatted 2 (some .int) :: kAL) { frames := 301, cells := 0, slots := 0, locals := 6023 } 0 0 [.ref (bd 25), .int (iI x_o)] w_o (pI (fun z_o w2_o => ((0 ≤ x_o ∧ x_o < ((T_o : Nat) : Int)) ∧ m_ns (m_lay g_o nr (lts x_o.toNat) (cs x_o.toNat) kO0) = z_o ∧ kMv w_o w2_o bd nr g_o T_o lts cs acs ams rel fnd 0) ∨ (¬ (0 ≤ x_o ∧ x_o < ((T_o : Nat) : Int)) ∧ kMv w_o w2_o bd nr g_o T_o lts cs acs ams rel fnd 1))) := by
  refine kM_of hl0 (by decide +kernel) (Nat.le_of_ble_eq_true rfl) ?_
  intro X_o hXl h_o hr hin
  subst hXl
  obtain ⟨ltA, acA, mnA, sz, rx, N_o, tm, tr, sh, sg, sm, dp, hmd, hI, hrx, hN_o⟩ := hst
  obtain ⟨hwf, hnr, hT6, hmn, hg0, htx⟩ := id hI
  show kG E_o X_o 2 0 0 w_o 0 [(0, .ref (bd 25)), (1, .int (iI x_o))] []
  refine k_aload_n h_o 0 dX7_formatted_0 rfl rfl ?_
  refine k_iload_n h_o 1 dX7_formatted_1 rfl rfl ?_
  refine k_callV (As := [.int (iI x_o)]) (rest := []) h_o mX7_asks kq_5_59 (c_X7_asks hl0 hmd hT6 (by omega)) 19 hmd.1 rfl rfl rfl (Nat.le_of_ble_eq_true rfl) ⟨rfl, rfl, ⟨(Nat.le_of_ble_eq_true rfl), (Nat.le_of_ble_eq_true rfl)⟩, ⟨(Nat.le_of_ble_eq_true rfl), (Nat.le_of_ble_eq_true rfl)⟩⟩ dX7_formatted_2 (kcI fun zq28 wq28 hp => ?_)
  rcases hp with ⟨hxT, rfl, hmdq28, hexq28⟩ | ⟨hxT, rfl, hmdq28, hexq28⟩
  · refine k_ifne h_o 10 (by decide) dX7_formatted_5 (by decide) (fun h5_o => ?_) (fun h5_o => ?_)
    · refine k_aload_n h_o 0 dX7_formatted_10 rfl rfl ?_
      refine k_iload_n h_o 1 dX7_formatted_11 rfl rfl ?_
      refine k_callV (As := [.int (iI x_o)]) (rest := []) h_o mX7_walksText kq_5_83 (c_X7_walksText hl0 hmdq28 hI hrx hN_o (by omega)) 19 hmdq28.1 rfl rfl rfl (Nat.le_of_ble_eq_true rfl) ⟨rfl, rfl, ⟨(Nat.le_of_ble_eq_true rfl), (Nat.le_of_ble_eq_true rfl)⟩, ⟨(Nat.le_of_ble_eq_true rfl), (Nat.le_of_ble_eq_true rfl)⟩⟩ dX7_formatted_12 (kcI fun z12_o wq29 hp => ?_)
      obtain ⟨rfl, rxq29, Nq29, tmq29, trq29, shq29, sgq29, smq29, dpq29, hmdq29, hrxq29, hNq29, hswq29, hexq29⟩ := hp
      refine k_pop h_o dX7_formatted_15 rfl ?_
      refine k_aload_n h_o 0 dX7_formatted_16 rfl rfl ?_
      refine k_get h_o 19 kf_X7_109 hmdq29.1 rfl dX7_formatted_17 ?_
      have hmdZ : (kMd wq29 bd nr g_o T_o cs ams ltA acA mnA rel fnd (cs x_o.toNat) rxq29 Nq29 tmq29 trq29 shq29 sgq29 smq29 dpq29 0) := ⟨hmdq29.1, hmdq29.2.1, hmdq29.2.2.1, hmdq29.2.2.2.1, hmdq29.2.2.2.2.1, hmdq29.2.2.2.2.2.1, hmdq29.2.2.2.2.2.2.1, hmdq29.2.2.2.2.2.2.2.1, hmdq29.2.2.2.2.2.2.2.2.1, hmdq29.2.2.2.2.2.2.2.2.2.1, hmdq29.2.2.2.2.2.2.2.2.2.2.1, hmdq29.2.2.2.2.2.2.2.2.2.2.2.1, hmdq29.2.2.2.2.2.2.2.2.2.2.2.2.1, hmdq29.2.2.2.2.2.2.2.2.2.2.2.2.2.1, hmdq29.2.2.2.2.2.2.2.2.2.2.2.2.2.2.1, hmdq29.2.2.2.2.2.2.2.2.2.2.2.2.2.2.2.1, hmdq29.2.2.2.2.2.2.2.2.2.2.2.2.2.2.2.2⟩
      exact k_iret h_o hr rfl (⟨_, rfl, Or.inl ⟨hxT, hswq29.2.2.1.symm, ⟨⟨_, _, _, _, _, _, _, _, _, _, _, _, hmdZ, hI, hrxq29, hNq29⟩, (fun x_o hx => ((hexq29 x_o hx).trans (hexq28 x_o hx)))⟩⟩⟩) (by omega) (by omega) dX7_formatted_20
    · exfalso; omega
  · refine k_ifne h_o 10 (by decide) dX7_formatted_5 (by decide) (fun h5_o => ?_) (fun h5_o => ?_)
    · exfalso; omega
    · refine k_iconst h_o dX7_formatted_8 ?_
      have hmdZ : (kMd wq28 bd nr g_o T_o cs ams ltA acA mnA rel fnd sz rx N_o tm tr sh sg sm dp 1) := ⟨hmdq28.1, hmdq28.2.1, hmdq28.2.2.1, hmdq28.2.2.2.1, hmdq28.2.2.2.2.1, hmdq28.2.2.2.2.2.1, hmdq28.2.2.2.2.2.2.1, hmdq28.2.2.2.2.2.2.2.1, hmdq28.2.2.2.2.2.2.2.2.1, hmdq28.2.2.2.2.2.2.2.2.2.1, hmdq28.2.2.2.2.2.2.2.2.2.2.1, hmdq28.2.2.2.2.2.2.2.2.2.2.2.1, hmdq28.2.2.2.2.2.2.2.2.2.2.2.2.1, hmdq28.2.2.2.2.2.2.2.2.2.2.2.2.2.1, hmdq28.2.2.2.2.2.2.2.2.2.2.2.2.2.2.1, hmdq28.2.2.2.2.2.2.2.2.2.2.2.2.2.2.2.1, hmdq28.2.2.2.2.2.2.2.2.2.2.2.2.2.2.2.2⟩
      exact k_iret h_o hr rfl (⟨_, rfl, Or.inr ⟨hxT, ⟨⟨_, _, _, _, _, _, _, _, _, _, _, _, hmdZ, hI, hrx, hN_o⟩, (fun x_o hx => (hexq28 x_o hx))⟩⟩⟩) (by omega) (by omega) dX7_formatted_9

set_option maxHeartbeats 4000000 in
set_option maxRecDepth 100000 in
theorem c_X7_ruleAt {E_o : kE} {l_o : Launch} (hl0 : l_o.stackTraces = false) {w_o : kW} {bd : Nat → Nat} {nr : Nat} {g_o : Nat → Nat → Int} {T_o : Nat} {lts : Nat → Nat → Int} {cs : Nat → Int} {acs : Nat → Nat → Int} {ams : Nat → Int} {rel fnd th : Int} {x_o p_o : Int} (hst : kMu w_o bd nr g_o T_o lts cs acs ams rel fnd th) (hx : -2147483648 ≤ x_o ∧ x_o < 2147483648) (hp : -2147483648 ≤ p_o ∧ p_o < 2147483648) : kM E_o l_o yX7_ruleAt (.code yX7_ruleAt cX7_ruleAt 3 (some .int) :: kAL) { frames := 301, cells := 0, slots := 0, locals := 6023 } 0 0 [.ref (bd 25), .int (iI x_o), .int (iI p_o)] w_o (pI (fun z_o w2_o => (((0 ≤ x_o ∧ x_o < ((T_o : Nat) : Int)) ∧ 0 ≤ p_o ∧ p_o < (m_lay g_o nr (lts x_o.toNat) (cs x_o.toNat) kO0).1) ∧ (m_lay g_o nr (lts x_o.toNat) (cs x_o.toNat) kO0).2.1 p_o.toNat = z_o ∧ kMv w_o w2_o bd nr g_o T_o lts cs acs ams rel fnd 0) ∨ (¬ (0 ≤ x_o ∧ x_o < ((T_o : Nat) : Int)) ∧ kMv w_o w2_o bd nr g_o T_o lts cs acs ams rel fnd 1) ∨ (((0 ≤ x_o ∧ x_o < ((T_o : Nat) : Int)) ∧ ¬ (0 ≤ p_o ∧ p_o < (m_lay g_o nr (lts x_o.toNat) (cs x_o.toNat) kO0).1)) ∧ kMv w_o w2_o bd nr g_o T_o lts cs acs ams rel fnd 2))) := by
  refine kM_of hl0 (by decide +kernel) (Nat.le_of_ble_eq_true rfl) ?_
  intro X_o hXl h_o hr hin
  subst hXl
  obtain ⟨ltA, acA, mnA, sz, rx, N_o, tm, tr, sh, sg, sm, dp, hmd, hI, hrx, hN_o⟩ := hst
  obtain ⟨hwf, hnr, hT6, hmn, hg0, htx⟩ := id hI
  show kG E_o X_o 3 0 0 w_o 0 [(0, .ref (bd 25)), (1, .int (iI x_o)), (2, .int (iI p_o))] []
  refine k_aload_n h_o 0 dX7_ruleAt_0 rfl rfl ?_
  refine k_iload_n h_o 1 dX7_ruleAt_1 rfl rfl ?_
  refine k_callV (As := [.int (iI x_o)]) (rest := []) h_o mX7_asks kq_5_59 (c_X7_asks hl0 hmd hT6 (by omega)) 19 hmd.1 rfl rfl rfl (Nat.le_of_ble_eq_true rfl) ⟨rfl, rfl, ⟨(Nat.le_of_ble_eq_true rfl), (Nat.le_of_ble_eq_true rfl)⟩, ⟨(Nat.le_of_ble_eq_true rfl), (Nat.le_of_ble_eq_true rfl)⟩⟩ dX7_ruleAt_2 (kcI fun zq30 wq30 hp => ?_)
  rcases hp with ⟨hxT, rfl, hmdq30, hexq30⟩ | ⟨hxT, rfl, hmdq30, hexq30⟩
  · refine k_ifne h_o 10 (by decide) dX7_ruleAt_5 (by decide) (fun h5_o => ?_) (fun h5_o => ?_)
    · refine k_aload_n h_o 0 dX7_ruleAt_10 rfl rfl ?_
      refine k_iload_n h_o 1 dX7_ruleAt_11 rfl rfl ?_
      refine k_callV (As := [.int (iI x_o)]) (rest := []) h_o mX7_walksText kq_5_83 (c_X7_walksText hl0 hmdq30 hI hrx hN_o (by omega)) 19 hmdq30.1 rfl rfl rfl (Nat.le_of_ble_eq_true rfl) ⟨rfl, rfl, ⟨(Nat.le_of_ble_eq_true rfl), (Nat.le_of_ble_eq_true rfl)⟩, ⟨(Nat.le_of_ble_eq_true rfl), (Nat.le_of_ble_eq_true rfl)⟩⟩ dX7_ruleAt_12 (kcI fun z12_o wq31 hp => ?_)
      obtain ⟨rfl, rxq31, Nq31, tmq31, trq31, shq31, sgq31, smq31, dpq31, hmdq31, hrxq31, hNq31, hswq31, hexq31⟩ := hp
      refine k_pop h_o dX7_ruleAt_15 rfl ?_
      obtain ⟨⟨ht1, ht2, ht3⟩, ht4, ht5, ht6, ht7⟩ := id hswq31
      refine k_aload_n h_o 0 dX7_ruleAt_16 rfl rfl ?_
      refine k_iload_n h_o 2 dX7_ruleAt_17 rfl rfl ?_
      refine k_i2l h_o (by omega) dX7_ruleAt_18 ?_
      refine k_lconst (z := 0) h_o dX7_ruleAt_19 (by decide) ?_
      refine k_aload_n h_o 0 dX7_ruleAt_20 rfl rfl ?_
      refine k_get h_o 19 kf_X7_115 hmdq31.1 rfl dX7_ruleAt_21 ?_
      refine k_iconst h_o dX7_ruleAt_24 ?_
      refine k_isub h_o dX7_ruleAt_25 ?_
      refine k_i2l h_o (by omega) dX7_ruleAt_26 ?_
      refine k_callS (As := [.long (lI p_o), .long (lI 0), .long (lI (tmq31 - 1))]) (rest := [.ref (bd 25)]) h_o mX7_in kq_4_216 (c_X7_in hl0 (by omega) (by decide) (by omega)) rfl rfl (Nat.le_of_ble_eq_true rfl) ⟨rfl, rfl, ⟨(Nat.le_of_ble_eq_true rfl), (Nat.le_of_ble_eq_true rfl)⟩, ⟨(Nat.le_of_ble_eq_true rfl), (Nat.le_of_ble_eq_true rfl)⟩⟩ dX7_ruleAt_27 (kcI fun z27_o w27_o hp => ?_)
      obtain ⟨rfl, rfl⟩ := hp
      refine k_ifBeq h_o 37 dX7_ruleAt_30 (by decide) (fun h30_o => ?_) (fun h30_o => ?_)
      · refine k_iconst h_o dX7_ruleAt_37 ?_
        refine k_put (fs' := [.ref (bd 0), .ref (bd 1), .ref (bd 2), .ref (bd 3), .ref (bd 4), .ref (bd 5), .ref (bd 6), .int (iI ((nr : Nat) : Int)), .ref (bd 8), .ref (bd 9), .ref (bd 10), .ref (bd 11), .int (iI ((T_o : Nat) : Int)), .long (lI fnd), .int (iI rel), .ref (bd 15), .int (iI (cs x_o.toNat)), .ref (bd 17), .ref (bd 18), .int (iI tmq31), .ref (bd 20), .ref (bd 21), .int (iI smq31), .int (iI dpq31), .int (iI 2)]) h_o 19 kf_X7_60 kt_X7_24 hmdq31.1 rfl rfl (Nat.le_of_ble_eq_true rfl) rfl dX7_ruleAt_38 ?_
        refine k_aload_n h_o 0 dX7_ruleAt_41 rfl rfl ?_
        refine k_get h_o 19 kf_X7_60 kset_eq rfl dX7_ruleAt_42 ?_
        refine k_ifne h_o 57 (by decide) dX7_ruleAt_45 (by decide) (fun h45_o => ?_) (fun h45_o => ?_)
        · refine k_iconst h_o dX7_ruleAt_57 ?_
          have hmdZ : (kMd ((kset wq31 19 (bd 25) (ob 9 [.ref (bd 0), .ref (bd 1), .ref (bd 2), .ref (bd 3), .ref (bd 4), .ref (bd 5), .ref (bd 6), .int (iI ((nr : Nat) : Int)), .ref (bd 8), .ref (bd 9), .ref (bd 10), .ref (bd 11), .int (iI ((T_o : Nat) : Int)), .long (lI fnd), .int (iI rel), .ref (bd 15), .int (iI (cs x_o.toNat)), .ref (bd 17), .ref (bd 18), .int (iI tmq31), .ref (bd 20), .ref (bd 21), .int (iI smq31), .int (iI dpq31), .int (iI 2)]))) bd nr g_o T_o cs ams ltA acA mnA rel fnd (cs x_o.toNat) rxq31 Nq31 tmq31 trq31 shq31 sgq31 smq31 dpq31 2) := ⟨kset_eq, ((kset_ne (by decide)).trans hmdq31.2.1), ((kset_ne (by decide)).trans hmdq31.2.2.1), ((kset_ne (by decide)).trans hmdq31.2.2.2.1), ((kset_ne (by decide)).trans hmdq31.2.2.2.2.1), ((kset_ne (by decide)).trans hmdq31.2.2.2.2.2.1), ((kset_ne (by decide)).trans hmdq31.2.2.2.2.2.2.1), ((kset_ne (by decide)).trans hmdq31.2.2.2.2.2.2.2.1), ((kset_ne (by decide)).trans hmdq31.2.2.2.2.2.2.2.2.1), ((kset_ne (by decide)).trans hmdq31.2.2.2.2.2.2.2.2.2.1), ((kset_ne (by decide)).trans hmdq31.2.2.2.2.2.2.2.2.2.2.1), ((kset_ne (by decide)).trans hmdq31.2.2.2.2.2.2.2.2.2.2.2.1), ((kset_ne (by decide)).trans hmdq31.2.2.2.2.2.2.2.2.2.2.2.2.1), ((kset_ne (by decide)).trans hmdq31.2.2.2.2.2.2.2.2.2.2.2.2.2.1), ((kset_ne (by decide)).trans hmdq31.2.2.2.2.2.2.2.2.2.2.2.2.2.2.1), ((kset_ne (by decide)).trans hmdq31.2.2.2.2.2.2.2.2.2.2.2.2.2.2.2.1), ((kset_ne (by decide)).trans hmdq31.2.2.2.2.2.2.2.2.2.2.2.2.2.2.2.2)⟩
          exact k_iret h_o hr rfl (⟨_, rfl, Or.inr (Or.inr ⟨⟨hxT, (by omega)⟩, ⟨⟨_, _, _, _, _, _, _, _, _, _, _, _, hmdZ, hI, hrxq31, hNq31⟩, (fun x_o hx => ((kset_ne (by omega)).trans ((hexq31 x_o hx).trans (hexq30 x_o hx))))⟩⟩)⟩) (by omega) (by omega) dX7_ruleAt_58
        · exfalso; omega
      · refine k_iconst h_o dX7_ruleAt_33 ?_
        refine k_goto h_o 38 dX7_ruleAt_34 (by decide) ?_
        refine k_put (fs' := [.ref (bd 0), .ref (bd 1), .ref (bd 2), .ref (bd 3), .ref (bd 4), .ref (bd 5), .ref (bd 6), .int (iI ((nr : Nat) : Int)), .ref (bd 8), .ref (bd 9), .ref (bd 10), .ref (bd 11), .int (iI ((T_o : Nat) : Int)), .long (lI fnd), .int (iI rel), .ref (bd 15), .int (iI (cs x_o.toNat)), .ref (bd 17), .ref (bd 18), .int (iI tmq31), .ref (bd 20), .ref (bd 21), .int (iI smq31), .int (iI dpq31), .int (iI 0)]) h_o 19 kf_X7_60 kt_X7_24 hmdq31.1 rfl rfl (Nat.le_of_ble_eq_true rfl) rfl dX7_ruleAt_38 ?_
        refine k_aload_n h_o 0 dX7_ruleAt_41 rfl rfl ?_
        refine k_get h_o 19 kf_X7_60 kset_eq rfl dX7_ruleAt_42 ?_
        refine k_ifne h_o 57 (by decide) dX7_ruleAt_45 (by decide) (fun h45_o => ?_) (fun h45_o => ?_)
        · exfalso; omega
        · refine k_aload_n h_o 0 dX7_ruleAt_48 rfl rfl ?_
          refine k_get h_o 19 kf_X7_50 kset_eq rfl dX7_ruleAt_49 ?_
          refine k_iload_n h_o 2 dX7_ruleAt_52 rfl rfl ?_
          refine k_iald h_o 38 ((kset_ne (by decide)).trans hmdq31.2.2.2.2.2.2.2.2.2.2.2.2.2.2.1) (by omega) (by decide) dX7_ruleAt_53 ?_
          refine k_goto h_o 58 dX7_ruleAt_54 (by decide) ?_
          have hmdZ : (kMd ((kset wq31 19 (bd 25) (ob 9 [.ref (bd 0), .ref (bd 1), .ref (bd 2), .ref (bd 3), .ref (bd 4), .ref (bd 5), .ref (bd 6), .int (iI ((nr : Nat) : Int)), .ref (bd 8), .ref (bd 9), .ref (bd 10), .ref (bd 11), .int (iI ((T_o : Nat) : Int)), .long (lI fnd), .int (iI rel), .ref (bd 15), .int (iI (cs x_o.toNat)), .ref (bd 17), .ref (bd 18), .int (iI tmq31), .ref (bd 20), .ref (bd 21), .int (iI smq31), .int (iI dpq31), .int (iI 0)]))) bd nr g_o T_o cs ams ltA acA mnA rel fnd (cs x_o.toNat) rxq31 Nq31 tmq31 trq31 shq31 sgq31 smq31 dpq31 0) := ⟨kset_eq, ((kset_ne (by decide)).trans hmdq31.2.1), ((kset_ne (by decide)).trans hmdq31.2.2.1), ((kset_ne (by decide)).trans hmdq31.2.2.2.1), ((kset_ne (by decide)).trans hmdq31.2.2.2.2.1), ((kset_ne (by decide)).trans hmdq31.2.2.2.2.2.1), ((kset_ne (by decide)).trans hmdq31.2.2.2.2.2.2.1), ((kset_ne (by decide)).trans hmdq31.2.2.2.2.2.2.2.1), ((kset_ne (by decide)).trans hmdq31.2.2.2.2.2.2.2.2.1), ((kset_ne (by decide)).trans hmdq31.2.2.2.2.2.2.2.2.2.1), ((kset_ne (by decide)).trans hmdq31.2.2.2.2.2.2.2.2.2.2.1), ((kset_ne (by decide)).trans hmdq31.2.2.2.2.2.2.2.2.2.2.2.1), ((kset_ne (by decide)).trans hmdq31.2.2.2.2.2.2.2.2.2.2.2.2.1), ((kset_ne (by decide)).trans hmdq31.2.2.2.2.2.2.2.2.2.2.2.2.2.1), ((kset_ne (by decide)).trans hmdq31.2.2.2.2.2.2.2.2.2.2.2.2.2.2.1), ((kset_ne (by decide)).trans hmdq31.2.2.2.2.2.2.2.2.2.2.2.2.2.2.2.1), ((kset_ne (by decide)).trans hmdq31.2.2.2.2.2.2.2.2.2.2.2.2.2.2.2.2)⟩
          exact k_iret h_o hr rfl (⟨_, rfl, Or.inl ⟨⟨hxT, (by omega)⟩, (ht3 p_o.toNat (by omega)).symm, ⟨⟨_, _, _, _, _, _, _, _, _, _, _, _, hmdZ, hI, hrxq31, hNq31⟩, (fun x_o hx => ((kset_ne (by omega)).trans ((hexq31 x_o hx).trans (hexq30 x_o hx))))⟩⟩⟩) (by omega) (by omega) dX7_ruleAt_58
    · exfalso; omega
  · refine k_ifne h_o 10 (by decide) dX7_ruleAt_5 (by decide) (fun h5_o => ?_) (fun h5_o => ?_)
    · exfalso; omega
    · refine k_iconst h_o dX7_ruleAt_8 ?_
      have hmdZ : (kMd wq30 bd nr g_o T_o cs ams ltA acA mnA rel fnd sz rx N_o tm tr sh sg sm dp 1) := ⟨hmdq30.1, hmdq30.2.1, hmdq30.2.2.1, hmdq30.2.2.2.1, hmdq30.2.2.2.2.1, hmdq30.2.2.2.2.2.1, hmdq30.2.2.2.2.2.2.1, hmdq30.2.2.2.2.2.2.2.1, hmdq30.2.2.2.2.2.2.2.2.1, hmdq30.2.2.2.2.2.2.2.2.2.1, hmdq30.2.2.2.2.2.2.2.2.2.2.1, hmdq30.2.2.2.2.2.2.2.2.2.2.2.1, hmdq30.2.2.2.2.2.2.2.2.2.2.2.2.1, hmdq30.2.2.2.2.2.2.2.2.2.2.2.2.2.1, hmdq30.2.2.2.2.2.2.2.2.2.2.2.2.2.2.1, hmdq30.2.2.2.2.2.2.2.2.2.2.2.2.2.2.2.1, hmdq30.2.2.2.2.2.2.2.2.2.2.2.2.2.2.2.2⟩
      exact k_iret h_o hr rfl (⟨_, rfl, Or.inr (Or.inl ⟨hxT, ⟨⟨_, _, _, _, _, _, _, _, _, _, _, _, hmdZ, hI, hrx, hN_o⟩, (fun x_o hx => (hexq30 x_o hx))⟩⟩)⟩) (by omega) (by omega) dX7_ruleAt_9

set_option maxHeartbeats 4000000 in
set_option maxRecDepth 100000 in
theorem c_X7_colourAt {E_o : kE} {l_o : Launch} (hl0 : l_o.stackTraces = false) {w_o : kW} {bd : Nat → Nat} {nr : Nat} {g_o : Nat → Nat → Int} {T_o : Nat} {lts : Nat → Nat → Int} {cs : Nat → Int} {acs : Nat → Nat → Int} {ams : Nat → Int} {rel fnd th : Int} {x_o p_o : Int} (hst : kMu w_o bd nr g_o T_o lts cs acs ams rel fnd th) (hx : -2147483648 ≤ x_o ∧ x_o < 2147483648) (hp : -2147483648 ≤ p_o ∧ p_o < 2147483648) : kM E_o l_o yX7_colourAt (.code yX7_colourAt cX7_colourAt 3 (some .int) :: kAL) { frames := 301, cells := 0, slots := 0, locals := 6023 } 0 0 [.ref (bd 25), .int (iI x_o), .int (iI p_o)] w_o (pI (fun z_o w2_o => (((0 ≤ x_o ∧ x_o < ((T_o : Nat) : Int)) ∧ 0 ≤ p_o ∧ p_o < cs x_o.toNat) ∧ (m_lay g_o nr (lts x_o.toNat) (cs x_o.toNat) kO0).2.2.1 p_o.toNat = z_o ∧ kMv w_o w2_o bd nr g_o T_o lts cs acs ams rel fnd 0) ∨ (¬ ((0 ≤ x_o ∧ x_o < ((T_o : Nat) : Int)) ∧ 0 ≤ p_o ∧ p_o < cs x_o.toNat) ∧ kMv w_o w2_o bd nr g_o T_o lts cs acs ams rel fnd 1))) := by
  refine kM_of hl0 (by decide +kernel) (Nat.le_of_ble_eq_true rfl) ?_
  intro X_o hXl h_o hr hin
  subst hXl
  obtain ⟨ltA, acA, mnA, sz, rx, N_o, tm, tr, sh, sg, sm, dp, hmd, hI, hrx, hN_o⟩ := hst
  obtain ⟨hwf, hnr, hT6, hmn, hg0, htx⟩ := id hI
  show kG E_o X_o 3 0 0 w_o 0 [(0, .ref (bd 25)), (1, .int (iI x_o)), (2, .int (iI p_o))] []
  refine k_aload_n h_o 0 dX7_colourAt_0 rfl rfl ?_
  refine k_aload_n h_o 0 dX7_colourAt_1 rfl rfl ?_
  refine k_iload_n h_o 1 dX7_colourAt_2 rfl rfl ?_
  refine k_iload_n h_o 2 dX7_colourAt_3 rfl rfl ?_
  refine k_callV (As := [.int (iI x_o), .int (iI p_o)]) (rest := [.ref (bd 25)]) h_o mX7_isPlace kq_5_51 (c_X7_isPlace hl0 hmd hI (by omega) (by omega)) 19 hmd.1 rfl rfl rfl (Nat.le_of_ble_eq_true rfl) ⟨rfl, rfl, ⟨(Nat.le_of_ble_eq_true rfl), (Nat.le_of_ble_eq_true rfl)⟩, ⟨(Nat.le_of_ble_eq_true rfl), (Nat.le_of_ble_eq_true rfl)⟩⟩ dX7_colourAt_4 (kcI fun z4_o w4_o hp => ?_)
  obtain ⟨rfl, rfl⟩ := hp
  refine k_ifBeq h_o 14 dX7_colourAt_7 (by decide) (fun h7_o => ?_) (fun h7_o => ?_)
  · refine k_iconst h_o dX7_colourAt_14 ?_
    refine k_put (fs' := [.ref (bd 0), .ref (bd 1), .ref (bd 2), .ref (bd 3), .ref (bd 4), .ref (bd 5), .ref (bd 6), .int (iI ((nr : Nat) : Int)), .ref (bd 8), .ref (bd 9), .ref (bd 10), .ref (bd 11), .int (iI ((T_o : Nat) : Int)), .long (lI fnd), .int (iI rel), .ref (bd 15), .int (iI sz), .ref (bd 17), .ref (bd 18), .int (iI tm), .ref (bd 20), .ref (bd 21), .int (iI sm), .int (iI dp), .int (iI 1)]) h_o 19 kf_X7_60 kt_X7_24 hmd.1 rfl rfl (Nat.le_of_ble_eq_true rfl) rfl dX7_colourAt_15 ?_
    refine k_aload_n h_o 0 dX7_colourAt_18 rfl rfl ?_
    refine k_get h_o 19 kf_X7_60 kset_eq rfl dX7_colourAt_19 ?_
    refine k_ifle h_o 27 (by decide) dX7_colourAt_22 (by decide) (fun h22_o => ?_) (fun h22_o => ?_)
    · exfalso; omega
    · refine k_iconst h_o dX7_colourAt_25 ?_
      have hmdZ : (kMd ((kset w_o 19 (bd 25) (ob 9 [.ref (bd 0), .ref (bd 1), .ref (bd 2), .ref (bd 3), .ref (bd 4), .ref (bd 5), .ref (bd 6), .int (iI ((nr : Nat) : Int)), .ref (bd 8), .ref (bd 9), .ref (bd 10), .ref (bd 11), .int (iI ((T_o : Nat) : Int)), .long (lI fnd), .int (iI rel), .ref (bd 15), .int (iI sz), .ref (bd 17), .ref (bd 18), .int (iI tm), .ref (bd 20), .ref (bd 21), .int (iI sm), .int (iI dp), .int (iI 1)]))) bd nr g_o T_o cs ams ltA acA mnA rel fnd sz rx N_o tm tr sh sg sm dp 1) := ⟨kset_eq, ((kset_ne (by decide)).trans hmd.2.1), ((kset_ne (by decide)).trans hmd.2.2.1), ((kset_ne (by decide)).trans hmd.2.2.2.1), ((kset_ne (by decide)).trans hmd.2.2.2.2.1), ((kset_ne (by decide)).trans hmd.2.2.2.2.2.1), ((kset_ne (by decide)).trans hmd.2.2.2.2.2.2.1), ((kset_ne (by decide)).trans hmd.2.2.2.2.2.2.2.1), ((kset_ne (by decide)).trans hmd.2.2.2.2.2.2.2.2.1), ((kset_ne (by decide)).trans hmd.2.2.2.2.2.2.2.2.2.1), ((kset_ne (by decide)).trans hmd.2.2.2.2.2.2.2.2.2.2.1), ((kset_ne (by decide)).trans hmd.2.2.2.2.2.2.2.2.2.2.2.1), ((kset_ne (by decide)).trans hmd.2.2.2.2.2.2.2.2.2.2.2.2.1), ((kset_ne (by decide)).trans hmd.2.2.2.2.2.2.2.2.2.2.2.2.2.1), ((kset_ne (by decide)).trans hmd.2.2.2.2.2.2.2.2.2.2.2.2.2.2.1), ((kset_ne (by decide)).trans hmd.2.2.2.2.2.2.2.2.2.2.2.2.2.2.2.1), ((kset_ne (by decide)).trans hmd.2.2.2.2.2.2.2.2.2.2.2.2.2.2.2.2)⟩
      exact k_iret h_o hr rfl (⟨_, rfl, Or.inr ⟨h7_o, ⟨⟨_, _, _, _, _, _, _, _, _, _, _, _, hmdZ, hI, hrx, hN_o⟩, (fun x_o hx => ((kset_ne (by omega)).trans rfl))⟩⟩⟩) (by omega) (by omega) dX7_colourAt_26
  · refine k_iconst h_o dX7_colourAt_10 ?_
    refine k_goto h_o 15 dX7_colourAt_11 (by decide) ?_
    refine k_put (fs' := [.ref (bd 0), .ref (bd 1), .ref (bd 2), .ref (bd 3), .ref (bd 4), .ref (bd 5), .ref (bd 6), .int (iI ((nr : Nat) : Int)), .ref (bd 8), .ref (bd 9), .ref (bd 10), .ref (bd 11), .int (iI ((T_o : Nat) : Int)), .long (lI fnd), .int (iI rel), .ref (bd 15), .int (iI sz), .ref (bd 17), .ref (bd 18), .int (iI tm), .ref (bd 20), .ref (bd 21), .int (iI sm), .int (iI dp), .int (iI 0)]) h_o 19 kf_X7_60 kt_X7_24 hmd.1 rfl rfl (Nat.le_of_ble_eq_true rfl) rfl dX7_colourAt_15 ?_
    refine k_aload_n h_o 0 dX7_colourAt_18 rfl rfl ?_
    refine k_get h_o 19 kf_X7_60 kset_eq rfl dX7_colourAt_19 ?_
    refine k_ifle h_o 27 (by decide) dX7_colourAt_22 (by decide) (fun h22_o => ?_) (fun h22_o => ?_)
    · obtain ⟨hlx, hcx, hax, hacx, hltx, hacAx⟩ := htx x_o.toNat (by omega)
      refine k_aload_n h_o 0 dX7_colourAt_27 rfl rfl ?_
      refine k_iload_n h_o 1 dX7_colourAt_28 rfl rfl ?_
      refine k_callV (As := [.int (iI x_o)]) (rest := []) h_o mX7_walksText kq_5_83 (c_X7_walksText hl0 ⟨kset_eq, ((kset_ne (by decide)).trans hmd.2.1), ((kset_ne (by decide)).trans hmd.2.2.1), ((kset_ne (by decide)).trans hmd.2.2.2.1), ((kset_ne (by decide)).trans hmd.2.2.2.2.1), ((kset_ne (by decide)).trans hmd.2.2.2.2.2.1), ((kset_ne (by decide)).trans hmd.2.2.2.2.2.2.1), ((kset_ne (by decide)).trans hmd.2.2.2.2.2.2.2.1), ((kset_ne (by decide)).trans hmd.2.2.2.2.2.2.2.2.1), ((kset_ne (by decide)).trans hmd.2.2.2.2.2.2.2.2.2.1), ((kset_ne (by decide)).trans hmd.2.2.2.2.2.2.2.2.2.2.1), ((kset_ne (by decide)).trans hmd.2.2.2.2.2.2.2.2.2.2.2.1), ((kset_ne (by decide)).trans hmd.2.2.2.2.2.2.2.2.2.2.2.2.1), ((kset_ne (by decide)).trans hmd.2.2.2.2.2.2.2.2.2.2.2.2.2.1), ((kset_ne (by decide)).trans hmd.2.2.2.2.2.2.2.2.2.2.2.2.2.2.1), ((kset_ne (by decide)).trans hmd.2.2.2.2.2.2.2.2.2.2.2.2.2.2.2.1), ((kset_ne (by decide)).trans hmd.2.2.2.2.2.2.2.2.2.2.2.2.2.2.2.2)⟩ hI hrx hN_o (by omega)) 19 kset_eq rfl rfl rfl (Nat.le_of_ble_eq_true rfl) ⟨rfl, rfl, ⟨(Nat.le_of_ble_eq_true rfl), (Nat.le_of_ble_eq_true rfl)⟩, ⟨(Nat.le_of_ble_eq_true rfl), (Nat.le_of_ble_eq_true rfl)⟩⟩ dX7_colourAt_29 (kcI fun z29_o wq32 hp => ?_)
      obtain ⟨rfl, rxq32, Nq32, tmq32, trq32, shq32, sgq32, smq32, dpq32, hmdq32, hrxq32, hNq32, hswq32, hexq32⟩ := hp
      refine k_pop h_o dX7_colourAt_32 rfl ?_
      obtain ⟨⟨ht1, ht2, ht3⟩, ht4, ht5, ht6, ht7⟩ := id hswq32
      refine k_aload_n h_o 0 dX7_colourAt_33 rfl rfl ?_
      refine k_get h_o 19 kf_X7_53 hmdq32.1 rfl dX7_colourAt_34 ?_
      refine k_iload_n h_o 2 dX7_colourAt_37 rfl rfl ?_
      refine k_iald h_o 40 hmdq32.2.2.2.2.2.2.2.2.2.2.2.2.2.2.2.1 (by omega) (by decide) dX7_colourAt_38 ?_
      have hmdZ : (kMd wq32 bd nr g_o T_o cs ams ltA acA mnA rel fnd (cs x_o.toNat) rxq32 Nq32 tmq32 trq32 shq32 sgq32 smq32 dpq32 0) := ⟨hmdq32.1, hmdq32.2.1, hmdq32.2.2.1, hmdq32.2.2.2.1, hmdq32.2.2.2.2.1, hmdq32.2.2.2.2.2.1, hmdq32.2.2.2.2.2.2.1, hmdq32.2.2.2.2.2.2.2.1, hmdq32.2.2.2.2.2.2.2.2.1, hmdq32.2.2.2.2.2.2.2.2.2.1, hmdq32.2.2.2.2.2.2.2.2.2.2.1, hmdq32.2.2.2.2.2.2.2.2.2.2.2.1, hmdq32.2.2.2.2.2.2.2.2.2.2.2.2.1, hmdq32.2.2.2.2.2.2.2.2.2.2.2.2.2.1, hmdq32.2.2.2.2.2.2.2.2.2.2.2.2.2.2.1, hmdq32.2.2.2.2.2.2.2.2.2.2.2.2.2.2.2.1, hmdq32.2.2.2.2.2.2.2.2.2.2.2.2.2.2.2.2⟩
      exact k_iret h_o hr rfl (⟨_, rfl, Or.inl ⟨h7_o, (ht6 p_o.toNat (by omega)).symm, ⟨⟨_, _, _, _, _, _, _, _, _, _, _, _, hmdZ, hI, hrxq32, hNq32⟩, (fun x_o hx => ((hexq32 x_o hx).trans ((kset_ne (by omega)).trans rfl)))⟩⟩⟩) (by omega) (by omega) dX7_colourAt_39
    · exfalso; omega

set_option maxHeartbeats 4000000 in
set_option maxRecDepth 100000 in
theorem c_X7_formattedAt {E_o : kE} {l_o : Launch} (hl0 : l_o.stackTraces = false) {w_o : kW} {bd : Nat → Nat} {nr : Nat} {g_o : Nat → Nat → Int} {T_o : Nat} {lts : Nat → Nat → Int} {cs : Nat → Int} {acs : Nat → Nat → Int} {ams : Nat → Int} {rel fnd th : Int} {x_o p_o : Int} (hst : kMu w_o bd nr g_o T_o lts cs acs ams rel fnd th) (hx : -2147483648 ≤ x_o ∧ x_o < 2147483648) (hp : -2147483648 ≤ p_o ∧ p_o < 2147483648) : kM E_o l_o yX7_formattedAt (.code yX7_formattedAt cX7_formattedAt 3 (some .char) :: kAL) { frames := 301, cells := 0, slots := 0, locals := 6023 } 0 0 [.ref (bd 25), .int (iI x_o), .int (iI p_o)] w_o (pI (fun z_o w2_o => (((0 ≤ x_o ∧ x_o < ((T_o : Nat) : Int)) ∧ 0 ≤ p_o ∧ p_o < m_ns (m_lay g_o nr (lts x_o.toNat) (cs x_o.toNat) kO0)) ∧ m_sg (m_lay g_o nr (lts x_o.toNat) (cs x_o.toNat) kO0).2.2.2.1 (lts x_o.toNat) p_o 10 0 0 = z_o ∧ kMv w_o w2_o bd nr g_o T_o lts cs acs ams rel fnd 0) ∨ (¬ (0 ≤ x_o ∧ x_o < ((T_o : Nat) : Int)) ∧ kMv w_o w2_o bd nr g_o T_o lts cs acs ams rel fnd 1) ∨ (((0 ≤ x_o ∧ x_o < ((T_o : Nat) : Int)) ∧ ¬ (0 ≤ p_o ∧ p_o < m_ns (m_lay g_o nr (lts x_o.toNat) (cs x_o.toNat) kO0))) ∧ kMv w_o w2_o bd nr g_o T_o lts cs acs ams rel fnd 2))) := by
  refine kM_of hl0 (by decide +kernel) (Nat.le_of_ble_eq_true rfl) ?_
  intro X_o hXl h_o hr hin
  subst hXl
  obtain ⟨ltA, acA, mnA, sz, rx, N_o, tm, tr, sh, sg, sm, dp, hmd, hI, hrx, hN_o⟩ := hst
  obtain ⟨hwf, hnr, hT6, hmn, hg0, htx⟩ := id hI
  show kG E_o X_o 3 0 0 w_o 0 [(0, .ref (bd 25)), (1, .int (iI x_o)), (2, .int (iI p_o))] []
  refine k_aload_n h_o 0 dX7_formattedAt_0 rfl rfl ?_
  refine k_iload_n h_o 1 dX7_formattedAt_1 rfl rfl ?_
  refine k_callV (As := [.int (iI x_o)]) (rest := []) h_o mX7_asks kq_5_59 (c_X7_asks hl0 hmd hT6 (by omega)) 19 hmd.1 rfl rfl rfl (Nat.le_of_ble_eq_true rfl) ⟨rfl, rfl, ⟨(Nat.le_of_ble_eq_true rfl), (Nat.le_of_ble_eq_true rfl)⟩, ⟨(Nat.le_of_ble_eq_true rfl), (Nat.le_of_ble_eq_true rfl)⟩⟩ dX7_formattedAt_2 (kcI fun zq33 wq33 hp => ?_)
  rcases hp with ⟨hxT, rfl, hmdq33, hexq33⟩ | ⟨hxT, rfl, hmdq33, hexq33⟩
  · refine k_ifne h_o 11 (by decide) dX7_formattedAt_5 (by decide) (fun h5_o => ?_) (fun h5_o => ?_)
    · obtain ⟨hlx, hcx, hax, hacx, hltx, hacAx⟩ := htx x_o.toNat (by omega)
      refine k_aload_n h_o 0 dX7_formattedAt_11 rfl rfl ?_
      refine k_iload_n h_o 1 dX7_formattedAt_12 rfl rfl ?_
      refine k_callV (As := [.int (iI x_o)]) (rest := []) h_o mX7_walksText kq_5_83 (c_X7_walksText hl0 hmdq33 hI hrx hN_o (by omega)) 19 hmdq33.1 rfl rfl rfl (Nat.le_of_ble_eq_true rfl) ⟨rfl, rfl, ⟨(Nat.le_of_ble_eq_true rfl), (Nat.le_of_ble_eq_true rfl)⟩, ⟨(Nat.le_of_ble_eq_true rfl), (Nat.le_of_ble_eq_true rfl)⟩⟩ dX7_formattedAt_13 (kcI fun z13_o wq34 hp => ?_)
      obtain ⟨rfl, rxq34, Nq34, tmq34, trq34, shq34, sgq34, smq34, dpq34, hmdq34, hrxq34, hNq34, hswq34, hexq34⟩ := hp
      refine k_pop h_o dX7_formattedAt_16 rfl ?_
      obtain ⟨⟨ht1, ht2, ht3⟩, ht4, ht5, ht6, ht7⟩ := id hswq34
      have hns := m_ns_rg (kOi_lay (lt := lts x_o.toNat) (O := kO0) hwf hnr hcx kOi_00) (m_lay_lc hwf hcx)
      refine k_aload_n h_o 0 dX7_formattedAt_17 rfl rfl ?_
      refine k_iload_n h_o 2 dX7_formattedAt_18 rfl rfl ?_
      refine k_i2l h_o (by omega) dX7_formattedAt_19 ?_
      refine k_lconst (z := 0) h_o dX7_formattedAt_20 (by decide) ?_
      refine k_aload_n h_o 0 dX7_formattedAt_21 rfl rfl ?_
      refine k_get h_o 19 kf_X7_109 hmdq34.1 rfl dX7_formattedAt_22 ?_
      refine k_iconst h_o dX7_formattedAt_25 ?_
      refine k_isub h_o dX7_formattedAt_26 ?_
      refine k_i2l h_o (by omega) dX7_formattedAt_27 ?_
      refine k_callS (As := [.long (lI p_o), .long (lI 0), .long (lI (smq34 - 1))]) (rest := [.ref (bd 25)]) h_o mX7_in kq_4_216 (c_X7_in hl0 (by omega) (by decide) (by omega)) rfl rfl (Nat.le_of_ble_eq_true rfl) ⟨rfl, rfl, ⟨(Nat.le_of_ble_eq_true rfl), (Nat.le_of_ble_eq_true rfl)⟩, ⟨(Nat.le_of_ble_eq_true rfl), (Nat.le_of_ble_eq_true rfl)⟩⟩ dX7_formattedAt_28 (kcI fun z28_o w28_o hp => ?_)
      obtain ⟨rfl, rfl⟩ := hp
      refine k_ifBeq h_o 38 dX7_formattedAt_31 (by decide) (fun h31_o => ?_) (fun h31_o => ?_)
      · refine k_iconst h_o dX7_formattedAt_38 ?_
        refine k_put (fs' := [.ref (bd 0), .ref (bd 1), .ref (bd 2), .ref (bd 3), .ref (bd 4), .ref (bd 5), .ref (bd 6), .int (iI ((nr : Nat) : Int)), .ref (bd 8), .ref (bd 9), .ref (bd 10), .ref (bd 11), .int (iI ((T_o : Nat) : Int)), .long (lI fnd), .int (iI rel), .ref (bd 15), .int (iI (cs x_o.toNat)), .ref (bd 17), .ref (bd 18), .int (iI tmq34), .ref (bd 20), .ref (bd 21), .int (iI smq34), .int (iI dpq34), .int (iI 2)]) h_o 19 kf_X7_60 kt_X7_24 hmdq34.1 rfl rfl (Nat.le_of_ble_eq_true rfl) rfl dX7_formattedAt_39 ?_
        refine k_aload_n h_o 0 dX7_formattedAt_42 rfl rfl ?_
        refine k_get h_o 19 kf_X7_60 kset_eq rfl dX7_formattedAt_43 ?_
        refine k_ifne h_o 58 (by decide) dX7_formattedAt_46 (by decide) (fun h46_o => ?_) (fun h46_o => ?_)
        · refine k_bipush h_o dX7_formattedAt_58 (by decide) ?_
          have hmdZ : (kMd ((kset wq34 19 (bd 25) (ob 9 [.ref (bd 0), .ref (bd 1), .ref (bd 2), .ref (bd 3), .ref (bd 4), .ref (bd 5), .ref (bd 6), .int (iI ((nr : Nat) : Int)), .ref (bd 8), .ref (bd 9), .ref (bd 10), .ref (bd 11), .int (iI ((T_o : Nat) : Int)), .long (lI fnd), .int (iI rel), .ref (bd 15), .int (iI (cs x_o.toNat)), .ref (bd 17), .ref (bd 18), .int (iI tmq34), .ref (bd 20), .ref (bd 21), .int (iI smq34), .int (iI dpq34), .int (iI 2)]))) bd nr g_o T_o cs ams ltA acA mnA rel fnd (cs x_o.toNat) rxq34 Nq34 tmq34 trq34 shq34 sgq34 smq34 dpq34 2) := ⟨kset_eq, ((kset_ne (by decide)).trans hmdq34.2.1), ((kset_ne (by decide)).trans hmdq34.2.2.1), ((kset_ne (by decide)).trans hmdq34.2.2.2.1), ((kset_ne (by decide)).trans hmdq34.2.2.2.2.1), ((kset_ne (by decide)).trans hmdq34.2.2.2.2.2.1), ((kset_ne (by decide)).trans hmdq34.2.2.2.2.2.2.1), ((kset_ne (by decide)).trans hmdq34.2.2.2.2.2.2.2.1), ((kset_ne (by decide)).trans hmdq34.2.2.2.2.2.2.2.2.1), ((kset_ne (by decide)).trans hmdq34.2.2.2.2.2.2.2.2.2.1), ((kset_ne (by decide)).trans hmdq34.2.2.2.2.2.2.2.2.2.2.1), ((kset_ne (by decide)).trans hmdq34.2.2.2.2.2.2.2.2.2.2.2.1), ((kset_ne (by decide)).trans hmdq34.2.2.2.2.2.2.2.2.2.2.2.2.1), ((kset_ne (by decide)).trans hmdq34.2.2.2.2.2.2.2.2.2.2.2.2.2.1), ((kset_ne (by decide)).trans hmdq34.2.2.2.2.2.2.2.2.2.2.2.2.2.2.1), ((kset_ne (by decide)).trans hmdq34.2.2.2.2.2.2.2.2.2.2.2.2.2.2.2.1), ((kset_ne (by decide)).trans hmdq34.2.2.2.2.2.2.2.2.2.2.2.2.2.2.2.2)⟩
          exact k_iret h_o hr rfl (⟨_, rfl, Or.inr (Or.inr ⟨⟨hxT, (by omega)⟩, ⟨⟨_, _, _, _, _, _, _, _, _, _, _, _, hmdZ, hI, hrxq34, hNq34⟩, (fun x_o hx => ((kset_ne (by omega)).trans ((hexq34 x_o hx).trans (hexq33 x_o hx))))⟩⟩)⟩) (by omega) (by omega) dX7_formattedAt_60
        · exfalso; omega
      · refine k_iconst h_o dX7_formattedAt_34 ?_
        refine k_goto h_o 39 dX7_formattedAt_35 (by decide) ?_
        refine k_put (fs' := [.ref (bd 0), .ref (bd 1), .ref (bd 2), .ref (bd 3), .ref (bd 4), .ref (bd 5), .ref (bd 6), .int (iI ((nr : Nat) : Int)), .ref (bd 8), .ref (bd 9), .ref (bd 10), .ref (bd 11), .int (iI ((T_o : Nat) : Int)), .long (lI fnd), .int (iI rel), .ref (bd 15), .int (iI (cs x_o.toNat)), .ref (bd 17), .ref (bd 18), .int (iI tmq34), .ref (bd 20), .ref (bd 21), .int (iI smq34), .int (iI dpq34), .int (iI 0)]) h_o 19 kf_X7_60 kt_X7_24 hmdq34.1 rfl rfl (Nat.le_of_ble_eq_true rfl) rfl dX7_formattedAt_39 ?_
        refine k_aload_n h_o 0 dX7_formattedAt_42 rfl rfl ?_
        refine k_get h_o 19 kf_X7_60 kset_eq rfl dX7_formattedAt_43 ?_
        refine k_ifne h_o 58 (by decide) dX7_formattedAt_46 (by decide) (fun h46_o => ?_) (fun h46_o => ?_)
        · exfalso; omega
        · refine k_aload_n h_o 0 dX7_formattedAt_49 rfl rfl ?_
          refine k_get h_o 19 kf_X7_56 kset_eq rfl dX7_formattedAt_50 ?_
          refine k_iload_n h_o 2 dX7_formattedAt_53 rfl rfl ?_
          refine k_cald h_o 41 ((kset_ne (by decide)).trans hmdq34.2.2.2.2.2.2.2.2.2.2.2.2.2.2.2.2) (by omega) (by decide) dX7_formattedAt_54 ?_
          refine k_top (z' := m_sg (m_lay g_o nr (lts x_o.toNat) (cs x_o.toNat) kO0).2.2.2.1 (lts x_o.toNat) p_o 10 0 0) (ht7 p_o (by omega) (by omega)) ?_
          refine k_goto h_o 60 dX7_formattedAt_55 (by decide) ?_
          have hmdZ : (kMd ((kset wq34 19 (bd 25) (ob 9 [.ref (bd 0), .ref (bd 1), .ref (bd 2), .ref (bd 3), .ref (bd 4), .ref (bd 5), .ref (bd 6), .int (iI ((nr : Nat) : Int)), .ref (bd 8), .ref (bd 9), .ref (bd 10), .ref (bd 11), .int (iI ((T_o : Nat) : Int)), .long (lI fnd), .int (iI rel), .ref (bd 15), .int (iI (cs x_o.toNat)), .ref (bd 17), .ref (bd 18), .int (iI tmq34), .ref (bd 20), .ref (bd 21), .int (iI smq34), .int (iI dpq34), .int (iI 0)]))) bd nr g_o T_o cs ams ltA acA mnA rel fnd (cs x_o.toNat) rxq34 Nq34 tmq34 trq34 shq34 sgq34 smq34 dpq34 0) := ⟨kset_eq, ((kset_ne (by decide)).trans hmdq34.2.1), ((kset_ne (by decide)).trans hmdq34.2.2.1), ((kset_ne (by decide)).trans hmdq34.2.2.2.1), ((kset_ne (by decide)).trans hmdq34.2.2.2.2.1), ((kset_ne (by decide)).trans hmdq34.2.2.2.2.2.1), ((kset_ne (by decide)).trans hmdq34.2.2.2.2.2.2.1), ((kset_ne (by decide)).trans hmdq34.2.2.2.2.2.2.2.1), ((kset_ne (by decide)).trans hmdq34.2.2.2.2.2.2.2.2.1), ((kset_ne (by decide)).trans hmdq34.2.2.2.2.2.2.2.2.2.1), ((kset_ne (by decide)).trans hmdq34.2.2.2.2.2.2.2.2.2.2.1), ((kset_ne (by decide)).trans hmdq34.2.2.2.2.2.2.2.2.2.2.2.1), ((kset_ne (by decide)).trans hmdq34.2.2.2.2.2.2.2.2.2.2.2.2.1), ((kset_ne (by decide)).trans hmdq34.2.2.2.2.2.2.2.2.2.2.2.2.2.1), ((kset_ne (by decide)).trans hmdq34.2.2.2.2.2.2.2.2.2.2.2.2.2.2.1), ((kset_ne (by decide)).trans hmdq34.2.2.2.2.2.2.2.2.2.2.2.2.2.2.2.1), ((kset_ne (by decide)).trans hmdq34.2.2.2.2.2.2.2.2.2.2.2.2.2.2.2.2)⟩
          exact k_iret h_o hr (iI_chn (m_sg_rg hlx)) (⟨_, rfl, Or.inl ⟨⟨hxT, (by omega)⟩, rfl, ⟨⟨_, _, _, _, _, _, _, _, _, _, _, _, hmdZ, hI, hrxq34, hNq34⟩, (fun x_o hx => ((kset_ne (by omega)).trans ((hexq34 x_o hx).trans (hexq33 x_o hx))))⟩⟩⟩) (by omega) (by omega) dX7_formattedAt_60
    · exfalso; omega
  · refine k_ifne h_o 11 (by decide) dX7_formattedAt_5 (by decide) (fun h5_o => ?_) (fun h5_o => ?_)
    · exfalso; omega
    · refine k_bipush h_o dX7_formattedAt_8 (by decide) ?_
      have hmdZ : (kMd wq33 bd nr g_o T_o cs ams ltA acA mnA rel fnd sz rx N_o tm tr sh sg sm dp 1) := ⟨hmdq33.1, hmdq33.2.1, hmdq33.2.2.1, hmdq33.2.2.2.1, hmdq33.2.2.2.2.1, hmdq33.2.2.2.2.2.1, hmdq33.2.2.2.2.2.2.1, hmdq33.2.2.2.2.2.2.2.1, hmdq33.2.2.2.2.2.2.2.2.1, hmdq33.2.2.2.2.2.2.2.2.2.1, hmdq33.2.2.2.2.2.2.2.2.2.2.1, hmdq33.2.2.2.2.2.2.2.2.2.2.2.1, hmdq33.2.2.2.2.2.2.2.2.2.2.2.2.1, hmdq33.2.2.2.2.2.2.2.2.2.2.2.2.2.1, hmdq33.2.2.2.2.2.2.2.2.2.2.2.2.2.2.1, hmdq33.2.2.2.2.2.2.2.2.2.2.2.2.2.2.2.1, hmdq33.2.2.2.2.2.2.2.2.2.2.2.2.2.2.2.2⟩
      exact k_iret h_o hr rfl (⟨_, rfl, Or.inr (Or.inl ⟨hxT, ⟨⟨_, _, _, _, _, _, _, _, _, _, _, _, hmdZ, hI, hrx, hN_o⟩, (fun x_o hx => (hexq33 x_o hx))⟩⟩)⟩) (by omega) (by omega) dX7_formattedAt_10
