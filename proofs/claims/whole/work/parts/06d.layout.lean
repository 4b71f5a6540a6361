set_option maxHeartbeats 4000000 in
set_option maxRecDepth 100000 in
theorem c_X1_ruleNumber {E_o : kE} {l_o : Launch} (hl0 : l_o.stackTraces = false) {w_o : kW} {al : Nat → Nat} {O_o : kO} {sk : Nat → Nat → Int} {t_o : Int} {p_o : Int} (hly : kLy w_o al O_o sk t_o) (hp : 0 ≤ p_o ∧ p_o < 95) : kM E_o l_o yX1_ruleNumber (.code yX1_ruleNumber cX1_ruleNumber 2 (some .int) :: kAL) { frames := 0, cells := 0, slots := 0, locals := 0 } 0 0 [.ref (al 0), .int (iI p_o)] w_o (pI (fun z_o w2_o => O_o.2.1 p_o.toNat = z_o ∧ w_o = w2_o)) := by
  refine kM_of hl0 (by decide +kernel) (Nat.le_of_ble_eq_true rfl) ?_
  intro X_o hXl h_o hr hin
  subst hXl
  show kG E_o X_o 2 0 0 w_o 0 [(0, .ref (al 0)), (1, .int (iI p_o))] []
  refine k_iload_n h_o 1 dX1_ruleNumber_0 rfl rfl ?_
  refine k_iflt h_o 22 (by omega) dX1_ruleNumber_1 (by decide) (fun h1_o => ?_) (fun h1_o => ?_)
  · exfalso; omega
  · refine k_iload_n h_o 1 dX1_ruleNumber_4 rfl rfl ?_
    refine k_aload_n h_o 0 dX1_ruleNumber_5 rfl rfl ?_
    refine k_get h_o 7 kf_X1_9 hly.1 rfl dX1_ruleNumber_6 ?_
    refine k_alen h_o 8 hly.2.1 rfl dX1_ruleNumber_9 ?_
    show kG E_o X_o 2 _ _ _ _ _ (.int (iI 95) :: _)
    refine k_icmp_ge h_o 22 (by omega) (by decide) dX1_ruleNumber_10 (by decide) (fun h10_o => ?_) (fun h10_o => ?_)
    · exfalso; omega
    · refine k_aload_n h_o 0 dX1_ruleNumber_13 rfl rfl ?_
      refine k_get h_o 7 kf_X1_9 hly.1 rfl dX1_ruleNumber_14 ?_
      refine k_iload_n h_o 1 dX1_ruleNumber_17 rfl rfl ?_
      refine k_iald h_o 8 hly.2.1 (by omega) (by decide) dX1_ruleNumber_18 ?_
      refine k_goto h_o 23 dX1_ruleNumber_19 (by decide) ?_
      exact k_iret h_o hr rfl (⟨_, rfl, rfl, rfl⟩) (by omega) (by omega) dX1_ruleNumber_23

set_option maxHeartbeats 4000000 in
set_option maxRecDepth 100000 in
theorem c_X1_colourOf {E_o : kE} {l_o : Launch} (hl0 : l_o.stackTraces = false) {w_o : kW} {al : Nat → Nat} {O_o : kO} {sk : Nat → Nat → Int} {t_o : Int} {p_o : Int} (hly : kLy w_o al O_o sk t_o) (hp : 0 ≤ p_o ∧ p_o < 10) : kM E_o l_o yX1_colourOf (.code yX1_colourOf cX1_colourOf 2 (some .int) :: kAL) { frames := 0, cells := 0, slots := 0, locals := 0 } 0 0 [.ref (al 0), .int (iI p_o)] w_o (pI (fun z_o w2_o => O_o.2.2.1 p_o.toNat = z_o ∧ w_o = w2_o)) := by
  refine kM_of hl0 (by decide +kernel) (Nat.le_of_ble_eq_true rfl) ?_
  intro X_o hXl h_o hr hin
  subst hXl
  show kG E_o X_o 2 0 0 w_o 0 [(0, .ref (al 0)), (1, .int (iI p_o))] []
  refine k_iload_n h_o 1 dX1_colourOf_0 rfl rfl ?_
  refine k_iflt h_o 22 (by omega) dX1_colourOf_1 (by decide) (fun h1_o => ?_) (fun h1_o => ?_)
  · exfalso; omega
  · refine k_iload_n h_o 1 dX1_colourOf_4 rfl rfl ?_
    refine k_aload_n h_o 0 dX1_colourOf_5 rfl rfl ?_
    refine k_get h_o 7 kf_X1_15 hly.1 rfl dX1_colourOf_6 ?_
    refine k_alen h_o 9 hly.2.2.1 rfl dX1_colourOf_9 ?_
    show kG E_o X_o 2 _ _ _ _ _ (.int (iI 10) :: _)
    refine k_icmp_ge h_o 22 (by omega) (by decide) dX1_colourOf_10 (by decide) (fun h10_o => ?_) (fun h10_o => ?_)
    · exfalso; omega
    · refine k_aload_n h_o 0 dX1_colourOf_13 rfl rfl ?_
      refine k_get h_o 7 kf_X1_15 hly.1 rfl dX1_colourOf_14 ?_
      refine k_iload_n h_o 1 dX1_colourOf_17 rfl rfl ?_
      refine k_iald h_o 9 hly.2.2.1 (by omega) (by decide) dX1_colourOf_18 ?_
      refine k_goto h_o 23 dX1_colourOf_19 (by decide) ?_
      exact k_iret h_o hr rfl (⟨_, rfl, rfl, rfl⟩) (by omega) (by omega) dX1_colourOf_23

set_option maxHeartbeats 4000000 in
set_option maxRecDepth 100000 in
theorem c_X1_setGap {E_o : kE} {l_o : Launch} (hl0 : l_o.stackTraces = false) {w_o : kW} {al : Nat → Nat} {O_o : kO} {sk : Nat → Nat → Int} {t_o : Int} {p_o v_o : Int} (hly : kLy w_o al O_o sk t_o) (hp : 0 ≤ p_o ∧ p_o < 10) : kM E_o l_o yX1_setGap (.code yX1_setGap cX1_setGap 3 none :: kAL) { frames := 0, cells := 0, slots := 0, locals := 0 } 0 0 [.ref (al 0), .int (iI p_o), .int (iI v_o)] w_o (pV (fun w2_o => kLy w2_o al (m_gp O_o p_o v_o) sk t_o ∧ kEx w_o w2_o kLk)) := by
  refine kM_of hl0 (by decide +kernel) (Nat.le_of_ble_eq_true rfl) ?_
  intro X_o hXl h_o hr hin
  subst hXl
  show kG E_o X_o 3 0 0 w_o 0 [(0, .ref (al 0)), (1, .int (iI p_o)), (2, .int (iI v_o))] []
  refine k_iload_n h_o 1 dX1_setGap_0 rfl rfl ?_
  refine k_iflt h_o 20 (by omega) dX1_setGap_1 (by decide) (fun h1_o => ?_) (fun h1_o => ?_)
  · exfalso; omega
  · refine k_iload_n h_o 1 dX1_setGap_4 rfl rfl ?_
    refine k_aload_n h_o 0 dX1_setGap_5 rfl rfl ?_
    refine k_get h_o 7 kf_X1_18 hly.1 rfl dX1_setGap_6 ?_
    refine k_alen h_o 10 hly.2.2.2.1 rfl dX1_setGap_9 ?_
    show kG E_o X_o 3 _ _ _ _ _ (.int (iI 10) :: _)
    refine k_icmp_ge h_o 20 (by omega) (by decide) dX1_setGap_10 (by decide) (fun h10_o => ?_) (fun h10_o => ?_)
    · exfalso; omega
    · refine k_aload_n h_o 0 dX1_setGap_13 rfl rfl ?_
      refine k_get h_o 7 kf_X1_18 hly.1 rfl dX1_setGap_14 ?_
      refine k_iload_n h_o 1 dX1_setGap_17 rfl rfl ?_
      refine k_iload_n h_o 2 dX1_setGap_18 rfl rfl ?_
      refine k_iast h_o 10 hly.2.2.2.1 (by omega) (by decide) dX1_setGap_19 ?_
      exact k_vret h_o hr (⟨rfl, ⟨((kset_ne (by decide)).trans hly.1), ((kset_ne (by decide)).trans hly.2.1), ((kset_ne (by decide)).trans hly.2.2.1), kset_eq, ((kset_ne (by decide)).trans hly.2.2.2.2.1), ((kset_ne (by decide)).trans hly.2.2.2.2.2.1), ((kset_ne (by decide)).trans hly.2.2.2.2.2.2.1), ((kset_ne (by decide)).trans hly.2.2.2.2.2.2.2)⟩, (fun x_o hx => ((kset_ne (by omega)).trans rfl))⟩) (by omega) (by omega) dX1_setGap_20

set_option maxHeartbeats 4000000 in
set_option maxRecDepth 100000 in
theorem c_X1_push {E_o : kE} {l_o : Launch} (hl0 : l_o.stackTraces = false) {w_o : kW} {al : Nat → Nat} {O_o : kO} {sk : Nat → Nat → Int} {t_o : Int} {s_o i_o j_o L_o : Int} (hly : kLy w_o al O_o sk t_o) (ht : 0 ≤ t_o ∧ t_o < 10) : kM E_o l_o yX1_push (.code yX1_push cX1_push 5 none :: kAL) { frames := 0, cells := 0, slots := 0, locals := 0 } 0 0 [.ref (al 0), .int (iI s_o), .int (iI i_o), .int (iI j_o), .int (iI L_o)] w_o (pV (fun w2_o => kLy w2_o al O_o (m_psh sk t_o.toNat s_o i_o j_o L_o) (t_o + 1) ∧ kEx w_o w2_o kLk)) := by
  refine kM_of hl0 (by decide +kernel) (Nat.le_of_ble_eq_true rfl) ?_
  intro X_o hXl h_o hr hin
  subst hXl
  show kG E_o X_o 5 0 0 w_o 0 [(0, .ref (al 0)), (1, .int (iI s_o)), (2, .int (iI i_o)), (3, .int (iI j_o)), (4, .int (iI L_o))] []
  refine k_aload_n h_o 0 dX1_push_0 rfl rfl ?_
  refine k_get h_o 7 kf_X1_33 hly.1 rfl dX1_push_1 ?_
  refine k_iflt h_o 67 (by omega) dX1_push_4 (by decide) (fun h4_o => ?_) (fun h4_o => ?_)
  · exfalso; omega
  · refine k_aload_n h_o 0 dX1_push_7 rfl rfl ?_
    refine k_get h_o 7 kf_X1_33 hly.1 rfl dX1_push_8 ?_
    refine k_bipush h_o dX1_push_11 (by decide) ?_
    refine k_icmp_ge h_o 67 (by omega) (by decide) dX1_push_13 (by decide) (fun h13_o => ?_) (fun h13_o => ?_)
    · exfalso; omega
    · refine k_aload_n h_o 0 dX1_push_16 rfl rfl ?_
      refine k_get h_o 7 kf_X1_21 hly.1 rfl dX1_push_17 ?_
      refine k_aload_n h_o 0 dX1_push_20 rfl rfl ?_
      refine k_get h_o 7 kf_X1_33 hly.1 rfl dX1_push_21 ?_
      refine k_iload_n h_o 1 dX1_push_24 rfl rfl ?_
      refine k_iast h_o 11 hly.2.2.2.2.1 (by omega) (by decide) dX1_push_25 ?_
      refine k_aload_n h_o 0 dX1_push_26 rfl rfl ?_
      refine k_get h_o 7 kf_X1_24 ((kset_ne (by decide)).trans hly.1) rfl dX1_push_27 ?_
      refine k_aload_n h_o 0 dX1_push_30 rfl rfl ?_
      refine k_get h_o 7 kf_X1_33 ((kset_ne (by decide)).trans hly.1) rfl dX1_push_31 ?_
      refine k_iload_n h_o 2 dX1_push_34 rfl rfl ?_
      refine k_iast h_o 12 ((kset_ne (by decide)).trans hly.2.2.2.2.2.1) (by omega) (by decide) dX1_push_35 ?_
      refine k_aload_n h_o 0 dX1_push_36 rfl rfl ?_
      refine k_get h_o 7 kf_X1_27 ((kset_ne (by decide)).trans ((kset_ne (by decide)).trans hly.1)) rfl dX1_push_37 ?_
      refine k_aload_n h_o 0 dX1_push_40 rfl rfl ?_
      refine k_get h_o 7 kf_X1_33 ((kset_ne (by decide)).trans ((kset_ne (by decide)).trans hly.1)) rfl dX1_push_41 ?_
      refine k_iload_n h_o 3 dX1_push_44 rfl rfl ?_
      refine k_iast h_o 13 ((kset_ne (by decide)).trans ((kset_ne (by decide)).trans hly.2.2.2.2.2.2.1)) (by omega) (by decide) dX1_push_45 ?_
      refine k_aload_n h_o 0 dX1_push_46 rfl rfl ?_
      refine k_get h_o 7 kf_X1_30 ((kset_ne (by decide)).trans ((kset_ne (by decide)).trans ((kset_ne (by decide)).trans hly.1))) rfl dX1_push_47 ?_
      refine k_aload_n h_o 0 dX1_push_50 rfl rfl ?_
      refine k_get h_o 7 kf_X1_33 ((kset_ne (by decide)).trans ((kset_ne (by decide)).trans ((kset_ne (by decide)).trans hly.1))) rfl dX1_push_51 ?_
      refine k_iload h_o 4 dX1_push_54 rfl ?_
      refine k_iast h_o 14 ((kset_ne (by decide)).trans ((kset_ne (by decide)).trans ((kset_ne (by decide)).trans hly.2.2.2.2.2.2.2))) (by omega) (by decide) dX1_push_56 ?_
      refine k_aload_n h_o 0 dX1_push_57 rfl rfl ?_
      refine k_dup h_o dX1_push_58 rfl ?_
      refine k_get h_o 7 kf_X1_33 ((kset_ne (by decide)).trans ((kset_ne (by decide)).trans ((kset_ne (by decide)).trans ((kset_ne (by decide)).trans hly.1)))) rfl dX1_push_59 ?_
      refine k_iconst h_o dX1_push_62 ?_
      refine k_iadd h_o dX1_push_63 ?_
      refine k_put (fs' := [.ref (al 1), .ref (al 2), .ref (al 3), .ref (al 4), .ref (al 5), .ref (al 6), .ref (al 7), .int (iI (t_o + 1)), .int (iI O_o.1), .int (iI O_o.2.2.2.2.1), .int (iI O_o.2.2.2.2.2)]) h_o 7 kf_X1_33 kt_X1_7 ((kset_ne (by decide)).trans ((kset_ne (by decide)).trans ((kset_ne (by decide)).trans ((kset_ne (by decide)).trans hly.1)))) rfl rfl (Nat.le_of_ble_eq_true rfl) rfl dX1_push_64 ?_
      exact k_vret h_o hr (⟨rfl, ⟨kset_eq, ((kset_ne (by decide)).trans ((kset_ne (by decide)).trans ((kset_ne (by decide)).trans ((kset_ne (by decide)).trans ((kset_ne (by decide)).trans hly.2.1))))), ((kset_ne (by decide)).trans ((kset_ne (by decide)).trans ((kset_ne (by decide)).trans ((kset_ne (by decide)).trans ((kset_ne (by decide)).trans hly.2.2.1))))), ((kset_ne (by decide)).trans ((kset_ne (by decide)).trans ((kset_ne (by decide)).trans ((kset_ne (by decide)).trans ((kset_ne (by decide)).trans hly.2.2.2.1))))), ((kset_ne (by decide)).trans ((kset_ne (by decide)).trans ((kset_ne (by decide)).trans ((kset_ne (by decide)).trans kset_eq)))), ((kset_ne (by decide)).trans ((kset_ne (by decide)).trans ((kset_ne (by decide)).trans kset_eq))), ((kset_ne (by decide)).trans ((kset_ne (by decide)).trans kset_eq)), ((kset_ne (by decide)).trans kset_eq)⟩, (fun x_o hx => ((kset_ne (by omega)).trans ((kset_ne (by omega)).trans ((kset_ne (by omega)).trans ((kset_ne (by omega)).trans ((kset_ne (by omega)).trans rfl))))))⟩) (by omega) (by omega) dX1_push_67

set_option maxHeartbeats 4000000 in
set_option maxRecDepth 100000 in
theorem c_X1_clear {E_o : kE} {l_o : Launch} (hl0 : l_o.stackTraces = false) {w_o : kW} {al : Nat → Nat} {O_o : kO} {sk : Nat → Nat → Int} {t_o : Int} (hly : kLy w_o al O_o sk t_o) : kM E_o l_o yX1_clear (.code yX1_clear cX1_clear 1 none :: kAL) { frames := 1, cells := 0, slots := 0, locals := 23 } 0 0 [.ref (al 0)] w_o (pV (fun w2_o => kLy w2_o al (m_ow O_o) sk 0 ∧ kEx w_o w2_o kLk)) := by
  refine kM_of hl0 (by decide +kernel) (Nat.le_of_ble_eq_true rfl) ?_
  intro X_o hXl h_o hr hin
  subst hXl
  show kG E_o X_o 1 0 0 w_o 0 [(0, .ref (al 0))] []
  refine k_aload_n h_o 0 dX1_clear_0 rfl rfl ?_
  refine k_get h_o 7 kf_X1_15 hly.1 rfl dX1_clear_1 ?_
  refine k_iconst h_o dX1_clear_4 ?_
  refine k_callS (As := [.ref (al 2), .int (iI 0)]) (rest := []) h_o mJ7_fill_53178 kq_2_14 (c_J7_fill_53178 hl0 hly.2.2.1 (by decide)) rfl rfl (Nat.le_of_ble_eq_true rfl) ⟨rfl, rfl, ⟨(Nat.le_of_ble_eq_true rfl), (Nat.le_of_ble_eq_true rfl)⟩, ⟨(Nat.le_of_ble_eq_true rfl), (Nat.le_of_ble_eq_true rfl)⟩⟩ dX1_clear_5 (kcV fun w5_o hp => ?_)
  subst hp
  refine k_aload_n h_o 0 dX1_clear_8 rfl rfl ?_
  refine k_get h_o 7 kf_X1_18 ((kset_ne (by decide)).trans hly.1) rfl dX1_clear_9 ?_
  refine k_iconst h_o dX1_clear_12 ?_
  refine k_callS (As := [.ref (al 3), .int (iI 0)]) (rest := []) h_o mJ7_fill_53178 kq_2_14 (c_J7_fill_53178 hl0 ((kset_ne (by decide)).trans hly.2.2.2.1) (by decide)) rfl rfl (Nat.le_of_ble_eq_true rfl) ⟨rfl, rfl, ⟨(Nat.le_of_ble_eq_true rfl), (Nat.le_of_ble_eq_true rfl)⟩, ⟨(Nat.le_of_ble_eq_true rfl), (Nat.le_of_ble_eq_true rfl)⟩⟩ dX1_clear_13 (kcV fun w13_o hp => ?_)
  subst hp
  refine k_aload_n h_o 0 dX1_clear_16 rfl rfl ?_
  refine k_iconst h_o dX1_clear_17 ?_
  refine k_put (fs' := [.ref (al 1), .ref (al 2), .ref (al 3), .ref (al 4), .ref (al 5), .ref (al 6), .ref (al 7), .int (iI 0), .int (iI O_o.1), .int (iI O_o.2.2.2.2.1), .int (iI O_o.2.2.2.2.2)]) h_o 7 kf_X1_33 kt_X1_7 ((kset_ne (by decide)).trans ((kset_ne (by decide)).trans hly.1)) rfl rfl (Nat.le_of_ble_eq_true rfl) rfl dX1_clear_18 ?_
  refine k_aload_n h_o 0 dX1_clear_21 rfl rfl ?_
  refine k_iconst h_o dX1_clear_22 ?_
  refine k_put (fs' := [.ref (al 1), .ref (al 2), .ref (al 3), .ref (al 4), .ref (al 5), .ref (al 6), .ref (al 7), .int (iI 0), .int (iI 0), .int (iI O_o.2.2.2.2.1), .int (iI O_o.2.2.2.2.2)]) h_o 7 kf_X1_37 kt_X1_8 kset_eq rfl rfl (Nat.le_of_ble_eq_true rfl) rfl dX1_clear_23 ?_
  refine k_aload_n h_o 0 dX1_clear_26 rfl rfl ?_
  refine k_iconst h_o dX1_clear_27 ?_
  refine k_put (fs' := [.ref (al 1), .ref (al 2), .ref (al 3), .ref (al 4), .ref (al 5), .ref (al 6), .ref (al 7), .int (iI 0), .int (iI 0), .int (iI 0), .int (iI O_o.2.2.2.2.2)]) h_o 7 kf_X1_40 kt_X1_9 kset_eq rfl rfl (Nat.le_of_ble_eq_true rfl) rfl dX1_clear_28 ?_
  refine k_aload_n h_o 0 dX1_clear_31 rfl rfl ?_
  refine k_iconst h_o dX1_clear_32 ?_
  refine k_put (fs' := [.ref (al 1), .ref (al 2), .ref (al 3), .ref (al 4), .ref (al 5), .ref (al 6), .ref (al 7), .int (iI 0), .int (iI 0), .int (iI 0), .int (iI 0)]) h_o 7 kf_X1_43 kt_X1_10 kset_eq rfl rfl (Nat.le_of_ble_eq_true rfl) rfl dX1_clear_33 ?_
  exact k_vret h_o hr (⟨rfl, ⟨kset_eq, ((kset_ne (by decide)).trans ((kset_ne (by decide)).trans ((kset_ne (by decide)).trans ((kset_ne (by decide)).trans ((kset_ne (by decide)).trans ((kset_ne (by decide)).trans hly.2.1)))))), ((kset_ne (by decide)).trans ((kset_ne (by decide)).trans ((kset_ne (by decide)).trans ((kset_ne (by decide)).trans ((kset_ne (by decide)).trans kset_eq))))), ((kset_ne (by decide)).trans ((kset_ne (by decide)).trans ((kset_ne (by decide)).trans ((kset_ne (by decide)).trans kset_eq)))), ((kset_ne (by decide)).trans ((kset_ne (by decide)).trans ((kset_ne (by decide)).trans ((kset_ne (by decide)).trans ((kset_ne (by decide)).trans ((kset_ne (by decide)).trans hly.2.2.2.2.1)))))), ((kset_ne (by decide)).trans ((kset_ne (by decide)).trans ((kset_ne (by decide)).trans ((kset_ne (by decide)).trans ((kset_ne (by decide)).trans ((kset_ne (by decide)).trans hly.2.2.2.2.2.1)))))), ((kset_ne (by decide)).trans ((kset_ne (by decide)).trans ((kset_ne (by decide)).trans ((kset_ne (by decide)).trans ((kset_ne (by decide)).trans ((kset_ne (by decide)).trans hly.2.2.2.2.2.2.1)))))), ((kset_ne (by decide)).trans ((kset_ne (by decide)).trans ((kset_ne (by decide)).trans ((kset_ne (by decide)).trans ((kset_ne (by decide)).trans ((kset_ne (by decide)).trans hly.2.2.2.2.2.2.2))))))⟩, (fun x_o hx => ((kset_ne (by omega)).trans ((kset_ne (by omega)).trans ((kset_ne (by omega)).trans ((kset_ne (by omega)).trans ((kset_ne (by omega)).trans ((kset_ne (by omega)).trans rfl)))))))⟩) (by omega) (by omega) dX1_clear_36

set_option maxHeartbeats 4000000 in
set_option maxRecDepth 100000 in
theorem c_X1_layRule {E_o : kE} {l_o : Launch} (hl0 : l_o.stackTraces = false) {w_o : kW} {al : Nat → Nat} {O_o : kO} {sk : Nat → Nat → Int} {t_o : Int} {r_o b_o : Nat} {g_o : Nat → Nat → Int} {i_o j_o : Int} (hly : kLy w_o al O_o sk t_o) (hru : w_o (100 + r_o) = some (b_o, kRl g_o r_o)) (hr6 : 0 ≤ g_o 6 r_o ∧ g_o 6 r_o ≤ 9) (hO : 0 ≤ O_o.1 ∧ O_o.1 < 95) (hi_o : 0 ≤ i_o ∧ i_o ≤ j_o) (hj : j_o < 10) : kM E_o l_o yX1_layRule (.code yX1_layRule cX1_layRule 5 none :: kAL) { frames := 0, cells := 0, slots := 0, locals := 0 } 0 0 [.ref (al 0), .ref b_o, .int (iI i_o), .int (iI j_o)] w_o (pV (fun w2_o => kLy w2_o al (m_lr g_o r_o i_o j_o O_o) sk t_o ∧ kEx w_o w2_o kLk)) := by
  refine kM_of hl0 (by decide +kernel) (Nat.le_of_ble_eq_true rfl) ?_
  intro X_o hXl h_o hr hin
  subst hXl
  show kG E_o X_o 5 0 0 w_o 0 [(0, .ref (al 0)), (1, .ref b_o), (2, .int (iI i_o)), (3, .int (iI j_o))] []
  refine k_aload_n h_o 0 dX1_layRule_0 rfl rfl ?_
  refine k_get h_o 7 kf_X1_37 hly.1 rfl dX1_layRule_1 ?_
  refine k_iflt h_o 42 (by omega) dX1_layRule_4 (by decide) (fun h4_o => ?_) (fun h4_o => ?_)
  · exfalso; omega
  · refine k_aload_n h_o 0 dX1_layRule_7 rfl rfl ?_
    refine k_get h_o 7 kf_X1_37 hly.1 rfl dX1_layRule_8 ?_
    refine k_aload_n h_o 0 dX1_layRule_11 rfl rfl ?_
    refine k_get h_o 7 kf_X1_9 hly.1 rfl dX1_layRule_12 ?_
    refine k_alen h_o 8 hly.2.1 rfl dX1_layRule_15 ?_
    show kG E_o X_o 5 _ _ _ _ _ (.int (iI 95) :: _)
    refine k_icmp_ge h_o 42 (by omega) (by decide) dX1_layRule_16 (by decide) (fun h16_o => ?_) (fun h16_o => ?_)
    · exfalso; omega
    · refine k_aload_n h_o 0 dX1_layRule_19 rfl rfl ?_
      refine k_get h_o 7 kf_X1_9 hly.1 rfl dX1_layRule_20 ?_
      refine k_aload_n h_o 0 dX1_layRule_23 rfl rfl ?_
      refine k_get h_o 7 kf_X1_37 hly.1 rfl dX1_layRule_24 ?_
      refine k_aload_n h_o 1 dX1_layRule_27 rfl rfl ?_
      refine k_get h_o (100 + r_o) kf_X1_92 hru rfl dX1_layRule_28 ?_
      refine k_iast h_o 8 hly.2.1 (by omega) (by decide) dX1_layRule_31 ?_
      refine k_aload_n h_o 0 dX1_layRule_32 rfl rfl ?_
      refine k_dup h_o dX1_layRule_33 rfl ?_
      refine k_get h_o 7 kf_X1_37 ((kset_ne (by decide)).trans hly.1) rfl dX1_layRule_34 ?_
      refine k_iconst h_o dX1_layRule_37 ?_
      refine k_iadd h_o dX1_layRule_38 ?_
      refine k_put (fs' := [.ref (al 1), .ref (al 2), .ref (al 3), .ref (al 4), .ref (al 5), .ref (al 6), .ref (al 7), .int (iI t_o), .int (iI (O_o.1 + 1)), .int (iI O_o.2.2.2.2.1), .int (iI O_o.2.2.2.2.2)]) h_o 7 kf_X1_37 kt_X1_8 ((kset_ne (by decide)).trans hly.1) rfl rfl (Nat.le_of_ble_eq_true rfl) rfl dX1_layRule_39 ?_
      refine k_aload_n h_o 1 dX1_layRule_42 rfl rfl ?_
      refine k_get h_o (100 + r_o) kf_X1_97 ((kset_ne (by omega)).trans ((kset_ne (by omega)).trans hru)) rfl dX1_layRule_43 ?_
      refine k_ifeq h_o 53 (by omega) dX1_layRule_46 (by decide) (fun h46_o => ?_) (fun h46_o => ?_)
      · exact k_vret h_o hr (⟨rfl, ⟨kset_eq, ((kset_ne (by decide)).trans kset_eq), (by unfold m_lr; rw [if_pos (by omega)]; exact ((kset_ne (by decide)).trans ((kset_ne (by decide)).trans hly.2.2.1))), ((kset_ne (by decide)).trans ((kset_ne (by decide)).trans hly.2.2.2.1)), ((kset_ne (by decide)).trans ((kset_ne (by decide)).trans hly.2.2.2.2.1)), ((kset_ne (by decide)).trans ((kset_ne (by decide)).trans hly.2.2.2.2.2.1)), ((kset_ne (by decide)).trans ((kset_ne (by decide)).trans hly.2.2.2.2.2.2.1)), ((kset_ne (by decide)).trans ((kset_ne (by decide)).trans hly.2.2.2.2.2.2.2))⟩, (fun x_o hx => ((kset_ne (by omega)).trans ((kset_ne (by omega)).trans rfl)))⟩) (by omega) (by omega) dX1_layRule_53
      · refine k_iload_n h_o 2 dX1_layRule_49 rfl rfl ?_
        refine k_ifge h_o 54 (by omega) dX1_layRule_50 (by decide) (fun h50_o => ?_) (fun h50_o => ?_)
        · refine k_iload_n h_o 2 dX1_layRule_54 rfl rfl ?_
          refine k_istore (lv' := [(4, .int (iI i_o)), (0, .ref (al 0)), (1, .ref b_o), (2, .int (iI i_o)), (3, .int (iI j_o))]) h_o dX1_layRule_55 (by decide) rfl ?_
          have L57 : ∀ (mm : Nat) (p_o : Int), (i_o ≤ p_o ∧ p_o ≤ j_o + 1) → (j_o + 1 - p_o < (mm : Int)) → kG E_o X_o 5 0 0 (kset (kset (kset w_o 8 (al 1) (ai 95 (kup O_o.2.1 O_o.1.toNat ((r_o : Nat) : Int)))) 7 (al 0) (ob 3 [.ref (al 1), .ref (al 2), .ref (al 3), .ref (al 4), .ref (al 5), .ref (al 6), .ref (al 7), .int (iI t_o), .int (iI (O_o.1 + 1)), .int (iI O_o.2.2.2.2.1), .int (iI O_o.2.2.2.2.2)])) 9 (al 2) (ai 10 (m_col O_o.2.2.1 i_o (p_o - 1) (g_o 6 r_o)))) 57 [(0, .ref (al 0)), (1, .ref b_o), (2, .int (iI i_o)), (3, .int (iI j_o)), (4, .int (iI p_o))] [] := by
            intro mm
            induction mm with
            | zero =>
              intro p_o hp hm_o
              exfalso; omega
            | succ mm ih57 =>
              intro p_o hp hm_o
              refine k_iload h_o 4 dX1_layRule_57 rfl ?_
              refine k_iload_n h_o 3 dX1_layRule_59 rfl rfl ?_
              refine k_icmp_gt h_o 90 (by omega) (by omega) dX1_layRule_60 (by decide) (fun h60_o => ?_) (fun h60_o => ?_)
              · exact k_vret h_o hr (⟨rfl, ⟨((kset_ne (by decide)).trans kset_eq), ((kset_ne (by decide)).trans ((kset_ne (by decide)).trans kset_eq)), (by unfold m_lr; rw [if_neg (by omega), show j_o = p_o - 1 by omega]; exact kset_eq), ((kset_ne (by decide)).trans ((kset_ne (by decide)).trans ((kset_ne (by decide)).trans hly.2.2.2.1))), ((kset_ne (by decide)).trans ((kset_ne (by decide)).trans ((kset_ne (by decide)).trans hly.2.2.2.2.1))), ((kset_ne (by decide)).trans ((kset_ne (by decide)).trans ((kset_ne (by decide)).trans hly.2.2.2.2.2.1))), ((kset_ne (by decide)).trans ((kset_ne (by decide)).trans ((kset_ne (by decide)).trans hly.2.2.2.2.2.2.1))), ((kset_ne (by decide)).trans ((kset_ne (by decide)).trans ((kset_ne (by decide)).trans hly.2.2.2.2.2.2.2)))⟩, (fun x_o hx => ((kset_ne (by omega)).trans ((kset_ne (by omega)).trans ((kset_ne (by omega)).trans rfl))))⟩) (by omega) (by omega) dX1_layRule_90
              · refine k_iload h_o 4 dX1_layRule_63 rfl ?_
                refine k_aload_n h_o 0 dX1_layRule_65 rfl rfl ?_
                refine k_get h_o 7 kf_X1_15 ((kset_ne (by decide)).trans kset_eq) rfl dX1_layRule_66 ?_
                refine k_alen h_o 9 kset_eq rfl dX1_layRule_69 ?_
                show kG E_o X_o 5 _ _ _ _ _ (.int (iI 10) :: _)
                refine k_icmp_ge h_o 90 (by omega) (by decide) dX1_layRule_70 (by decide) (fun h70_o => ?_) (fun h70_o => ?_)
                · exfalso; omega
                · refine k_aload_n h_o 0 dX1_layRule_73 rfl rfl ?_
                  refine k_get h_o 7 kf_X1_15 ((kset_ne (by decide)).trans kset_eq) rfl dX1_layRule_74 ?_
                  refine k_iload h_o 4 dX1_layRule_77 rfl ?_
                  refine k_aload_n h_o 1 dX1_layRule_79 rfl rfl ?_
                  refine k_get h_o (100 + r_o) kf_X1_97 ((kset_ne (by omega)).trans ((kset_ne (by omega)).trans ((kset_ne (by omega)).trans hru))) rfl dX1_layRule_80 ?_
                  refine k_iast h_o 9 kset_eq (by omega) (by decide) dX1_layRule_83 ?_
                  refine k_iinc (lv' := [(4, .int (iI (p_o + 1))), (0, .ref (al 0)), (1, .ref b_o), (2, .int (iI i_o)), (3, .int (iI j_o))]) h_o 4 dX1_layRule_84 rfl (by decide) rfl ?_
                  refine k_goto h_o 57 dX1_layRule_87 (by decide) ?_
                  refine k_world (w' := (kset (kset (kset w_o 8 (al 1) (ai 95 (kup O_o.2.1 O_o.1.toNat ((r_o : Nat) : Int)))) 7 (al 0) (ob 3 [.ref (al 1), .ref (al 2), .ref (al 3), .ref (al 4), .ref (al 5), .ref (al 6), .ref (al 7), .int (iI t_o), .int (iI (O_o.1 + 1)), .int (iI O_o.2.2.2.2.1), .int (iI O_o.2.2.2.2.2)])) 9 (al 2) (ai 10 (m_col O_o.2.2.1 i_o (p_o + 1 - 1) (g_o 6 r_o))))) (by rw [kset_kset]; exact congrArg (fun f_o => kset _ 9 (al 2) (ai 10 f_o)) (by have e_o := m_col_s (f := O_o.2.2.1) (i := i_o) (j := p_o - 1) (v := g_o 6 r_o) hi_o.1 (by omega) (by omega); rw [show p_o - 1 + 1 = p_o by omega] at e_o; rw [e_o, show p_o + 1 - 1 = p_o by omega])) ?_
                  refine k_sub (lv' := [(0, .ref (al 0)), (1, .ref b_o), (2, .int (iI i_o)), (3, .int (iI j_o)), (4, .int (iI (p_o + 1)))]) [1, 2, 3, 4, 0] rfl ?_
                  exact ih57 (p_o + 1) (by omega) (by omega)
          refine k_world (w' := (kset (kset (kset w_o 8 (al 1) (ai 95 (kup O_o.2.1 O_o.1.toNat ((r_o : Nat) : Int)))) 7 (al 0) (ob 3 [.ref (al 1), .ref (al 2), .ref (al 3), .ref (al 4), .ref (al 5), .ref (al 6), .ref (al 7), .int (iI t_o), .int (iI (O_o.1 + 1)), .int (iI O_o.2.2.2.2.1), .int (iI O_o.2.2.2.2.2)])) 9 (al 2) (ai 10 (m_col O_o.2.2.1 i_o (i_o - 1) (g_o 6 r_o))))) (by rw [m_col_0 (by omega)]; exact (kset_id ((kset_ne (by decide)).trans ((kset_ne (by decide)).trans hly.2.2.1))).symm) ?_
          refine k_sub (lv' := [(0, .ref (al 0)), (1, .ref b_o), (2, .int (iI i_o)), (3, .int (iI j_o)), (4, .int (iI i_o))]) [1, 2, 3, 4, 0] rfl ?_
          exact L57 ((j_o + 1 - i_o : Int).toNat + 1) i_o (by omega) (by omega)
        · exfalso; omega

set_option maxHeartbeats 4000000 in
set_option maxRecDepth 100000 in
theorem c_X1_countSigns {E_o : kE} {l_o : Launch} (hl0 : l_o.stackTraces = false) {w_o : kW} {al : Nat → Nat} {O_o : kO} {sk : Nat → Nat → Int} {t_o : Int} (hly : kLy w_o al O_o sk t_o) (hga : ∀ p_o, 0 ≤ O_o.2.2.2.1 p_o ∧ O_o.2.2.2.1 p_o ≤ 3) (hlc : 0 ≤ O_o.2.2.2.2.2 ∧ O_o.2.2.2.2.2 ≤ 10) : kM E_o l_o yX1_countSigns (.code yX1_countSigns cX1_countSigns 6 (some .int) :: kAL) { frames := 0, cells := 0, slots := 0, locals := 0 } 0 0 [.ref (al 0)] w_o (pI (fun z_o w2_o => O_o.2.2.2.2.2 + m_si O_o.2.2.2.1 10 = z_o ∧ w_o = w2_o)) := by
  refine kM_of hl0 (by decide +kernel) (Nat.le_of_ble_eq_true rfl) ?_
  intro X_o hXl h_o hr hin
  subst hXl
  show kG E_o X_o 6 0 0 w_o 0 [(0, .ref (al 0))] []
  refine k_aload_n h_o 0 dX1_countSigns_0 rfl rfl ?_
  refine k_get h_o 7 kf_X1_43 hly.1 rfl dX1_countSigns_1 ?_
  refine k_istore_n (lv' := [(1, .int (iI O_o.2.2.2.2.2)), (0, .ref (al 0))]) h_o dX1_countSigns_4 rfl (by decide) rfl ?_
  refine k_aload_n h_o 1 dX1_countSigns_5 rfl rfl ?_
  refine k_get h_o 7 kf_X1_18 hly.1 rfl dX1_countSigns_6 ?_
  refine k_astore_n (lv' := [(2, .ref (al 3)), (1, .int (iI O_o.2.2.2.2.2)), (0, .ref (al 0))]) h_o dX1_countSigns_9 rfl (by decide) rfl ?_
  refine k_aload_n h_o 0 dX1_countSigns_10 rfl rfl ?_
  refine k_alen h_o 10 hly.2.2.2.1 rfl dX1_countSigns_11 ?_
  show kG E_o X_o 6 _ _ _ _ _ (.int (iI 10) :: _)
  refine k_istore_n (lv' := [(3, .int (iI 10)), (2, .ref (al 3)), (1, .int (iI O_o.2.2.2.2.2)), (0, .ref (al 0))]) h_o dX1_countSigns_12 rfl (by decide) rfl ?_
  refine k_iconst h_o dX1_countSigns_13 ?_
  refine k_istore (lv' := [(4, .int (iI 0)), (3, .int (iI 10)), (2, .ref (al 3)), (1, .int (iI O_o.2.2.2.2.2)), (0, .ref (al 0))]) h_o dX1_countSigns_14 (by decide) rfl ?_
  have L16 : ∀ (mm : Nat) (p_o : Int), (0 ≤ p_o ∧ p_o ≤ 10) → (10 - p_o < (mm : Int)) → kG E_o X_o 6 0 0 w_o 16 [(0, .ref (al 0)), (1, .int (iI (O_o.2.2.2.2.2 + m_si O_o.2.2.2.1 p_o.toNat))), (2, .ref (al 3)), (3, .int (iI 10)), (4, .int (iI p_o))] [] := by
    intro mm
    induction mm with
    | zero =>
      intro p_o hp hm_o
      exfalso; omega
    | succ mm ih16 =>
      intro p_o hp hm_o
      refine k_iload h_o 4 dX1_countSigns_16 rfl ?_
      refine k_iload_n h_o 3 dX1_countSigns_18 rfl rfl ?_
      refine k_icmp_ge h_o 39 (by omega) (by decide) dX1_countSigns_19 (by decide) (fun h19_o => ?_) (fun h19_o => ?_)
      · refine k_iload_n h_o 1 dX1_countSigns_39 rfl rfl ?_
        exact k_iret h_o hr rfl (⟨_, rfl, (by rw [show p_o.toNat = 10 by omega]), rfl⟩) (by omega) (by omega) dX1_countSigns_40
      · refine k_aload_n h_o 2 dX1_countSigns_22 rfl rfl ?_
        refine k_iload h_o 4 dX1_countSigns_23 rfl ?_
        refine k_iald h_o 10 hly.2.2.2.1 (by omega) (by decide) dX1_countSigns_25 ?_
        refine k_istore (lv' := [(5, .int (iI (O_o.2.2.2.1 ((p_o).toNat)))), (0, .ref (al 0)), (1, .int (iI (O_o.2.2.2.2.2 + m_si O_o.2.2.2.1 p_o.toNat))), (2, .ref (al 3)), (3, .int (iI 10)), (4, .int (iI p_o))]) h_o dX1_countSigns_26 (by decide) rfl ?_
        refine k_iload_n h_o 2 dX1_countSigns_28 rfl rfl ?_
        refine k_iload h_o 0 dX1_countSigns_29 rfl ?_
        refine k_iadd h_o dX1_countSigns_31 ?_
        refine k_istore_n (lv' := [(1, .int (iI ((O_o.2.2.2.2.2 + m_si O_o.2.2.2.1 p_o.toNat) + (O_o.2.2.2.1 ((p_o).toNat))))), (5, .int (iI (O_o.2.2.2.1 ((p_o).toNat)))), (0, .ref (al 0)), (2, .ref (al 3)), (3, .int (iI 10)), (4, .int (iI p_o))]) h_o dX1_countSigns_32 rfl (by decide) rfl ?_
        refine k_iinc (lv' := [(4, .int (iI (p_o + 1))), (1, .int (iI ((O_o.2.2.2.2.2 + m_si O_o.2.2.2.1 p_o.toNat) + (O_o.2.2.2.1 ((p_o).toNat))))), (5, .int (iI (O_o.2.2.2.1 ((p_o).toNat)))), (0, .ref (al 0)), (2, .ref (al 3)), (3, .int (iI 10))]) h_o 5 dX1_countSigns_33 rfl (by decide) rfl ?_
        refine k_goto h_o 16 dX1_countSigns_36 (by decide) ?_
        refine k_sub (lv' := [(0, .ref (al 0)), (1, .int (iI ((O_o.2.2.2.2.2 + m_si O_o.2.2.2.1 p_o.toNat) + (O_o.2.2.2.1 ((p_o).toNat))))), (2, .ref (al 3)), (3, .int (iI 10)), (4, .int (iI (p_o + 1)))]) [3, 1, 4, 5, 0] rfl ?_
        rw [show ((O_o.2.2.2.2.2 + m_si O_o.2.2.2.1 p_o.toNat) + (O_o.2.2.2.1 ((p_o).toNat)) : Int) = O_o.2.2.2.2.2 + m_si O_o.2.2.2.1 (p_o + 1).toNat by rw [show (p_o + 1).toNat = p_o.toNat + 1 by omega]; exact Int.add_assoc _ _ _]
        exact ih16 (p_o + 1) (by omega) (by omega)
  refine k_sub (lv' := [(0, .ref (al 0)), (1, .int (iI O_o.2.2.2.2.2)), (2, .ref (al 3)), (3, .int (iI 10)), (4, .int (iI 0))]) [4, 3, 2, 1, 0] rfl ?_
  rw [show (O_o.2.2.2.2.2 : Int) = O_o.2.2.2.2.2 + m_si O_o.2.2.2.1 (0 : Int).toNat by exact (Int.add_zero _).symm]
  exact L16 ((10 - 0 : Int).toNat + 1) 0 (by omega) (by omega)

set_option maxHeartbeats 4000000 in
set_option maxRecDepth 100000 in
theorem c_X1_sign {E_o : kE} {l_o : Launch} (hl0 : l_o.stackTraces = false) {w_o : kW} {al : Nat → Nat} {O_o : kO} {sk : Nat → Nat → Int} {t_o : Int} {q_o a_o la na : Nat} {lt_o : Nat → Int} {N_o : Nat → Nat} {c_o x_o : Int} (hly : kLy w_o al O_o sk t_o) (hsp : kSp w_o q_o a_o la na lt_o N_o c_o) (hlt : kLt lt_o) (hga : ∀ p_o, 0 ≤ O_o.2.2.2.1 p_o ∧ O_o.2.2.2.1 p_o ≤ 3) (hx : 0 ≤ x_o ∧ x_o < 1000) : kM E_o l_o yX1_sign (.code yX1_sign cX1_sign 5 (some .char) :: kAL) { frames := 1, cells := 0, slots := 0, locals := 21 } 0 0 [.ref (al 0), .ref a_o, .int (iI x_o)] w_o (pI (fun z_o w2_o => m_sg O_o.2.2.2.1 lt_o x_o 10 0 0 = z_o ∧ w_o = w2_o)) := by
  refine kM_of hl0 (by decide +kernel) (Nat.le_of_ble_eq_true rfl) ?_
  intro X_o hXl h_o hr hin
  subst hXl
  show kG E_o X_o 5 0 0 w_o 0 [(0, .ref (al 0)), (1, .ref a_o), (2, .int (iI x_o))] []
  refine k_iconst h_o dX1_sign_0 ?_
  refine k_istore_n (lv' := [(3, .int (iI 0)), (0, .ref (al 0)), (1, .ref a_o), (2, .int (iI x_o))]) h_o dX1_sign_1 rfl (by decide) rfl ?_
  refine k_iconst h_o dX1_sign_2 ?_
  refine k_istore (lv' := [(4, .int (iI 0)), (3, .int (iI 0)), (0, .ref (al 0)), (1, .ref a_o), (2, .int (iI x_o))]) h_o dX1_sign_3 (by decide) rfl ?_
  have L5 : ∀ (mm : Nat) (p_o : Int) (y_o : Int), (0 ≤ p_o ∧ p_o ≤ 10) → (0 ≤ y_o ∧ y_o ≤ 4 * p_o) → (m_sg O_o.2.2.2.1 lt_o x_o (10 - p_o).toNat p_o.toNat y_o = m_sg O_o.2.2.2.1 lt_o x_o 10 0 0) → (10 - p_o < (mm : Int)) → kG E_o X_o 5 0 0 w_o 5 [(0, .ref (al 0)), (1, .ref a_o), (2, .int (iI x_o)), (3, .int (iI y_o)), (4, .int (iI p_o))] [] := by
    intro mm
    induction mm with
    | zero =>
      intro p_o y_o hp hy hsg hm_o
      exfalso; omega
    | succ mm ih5 =>
      intro p_o y_o hp hy hsg hm_o
      refine k_iload h_o 4 dX1_sign_5 rfl ?_
      refine k_aload_n h_o 0 dX1_sign_7 rfl rfl ?_
      refine k_get h_o 7 kf_X1_18 hly.1 rfl dX1_sign_8 ?_
      refine k_alen h_o 10 hly.2.2.2.1 rfl dX1_sign_11 ?_
      show kG E_o X_o 5 _ _ _ _ _ (.int (iI 10) :: _)
      refine k_icmp_ge h_o 58 (by omega) (by decide) dX1_sign_12 (by decide) (fun h12_o => ?_) (fun h12_o => ?_)
      · refine k_bipush h_o dX1_sign_58 (by decide) ?_
        exact k_iret h_o hr rfl (⟨_, rfl, (by rw [← hsg, show (10 - p_o).toNat = 0 by omega]; rfl), rfl⟩) (by omega) (by omega) dX1_sign_60
      · refine k_iload_n h_o 3 dX1_sign_15 rfl rfl ?_
        refine k_aload_n h_o 0 dX1_sign_16 rfl rfl ?_
        refine k_get h_o 7 kf_X1_18 hly.1 rfl dX1_sign_17 ?_
        refine k_iload h_o 4 dX1_sign_20 rfl ?_
        refine k_iald h_o 10 hly.2.2.2.1 (by omega) (by decide) dX1_sign_22 ?_
        refine k_iadd h_o dX1_sign_23 ?_
        refine k_istore_n (lv' := [(3, .int (iI (y_o + (O_o.2.2.2.1 ((p_o).toNat))))), (0, .ref (al 0)), (1, .ref a_o), (2, .int (iI x_o)), (4, .int (iI p_o))]) h_o dX1_sign_24 rfl (by decide) rfl ?_
        refine k_iload_n h_o 3 dX1_sign_25 rfl rfl ?_
        refine k_iload_n h_o 0 dX1_sign_26 rfl rfl ?_
        refine k_icmp_ge h_o 33 (by omega) (by have := hga ((p_o).toNat); omega) dX1_sign_27 (by decide) (fun h27_o => ?_) (fun h27_o => ?_)
        · refine k_iload_n h_o 3 dX1_sign_33 rfl rfl ?_
          refine k_iload_n h_o 0 dX1_sign_34 rfl rfl ?_
          refine k_icmp_ne h_o 49 (by omega) (by have := hga ((p_o).toNat); omega) dX1_sign_35 (by decide) (fun h35_o => ?_) (fun h35_o => ?_)
          · refine k_iinc (lv' := [(3, .int (iI (y_o + (O_o.2.2.2.1 ((p_o).toNat)) + 1))), (0, .ref (al 0)), (1, .ref a_o), (2, .int (iI x_o)), (4, .int (iI p_o))]) h_o 0 dX1_sign_49 rfl (by decide) rfl ?_
            refine k_iinc (lv' := [(4, .int (iI (p_o + 1))), (3, .int (iI (y_o + (O_o.2.2.2.1 ((p_o).toNat)) + 1))), (0, .ref (al 0)), (1, .ref a_o), (2, .int (iI x_o))]) h_o 4 dX1_sign_52 rfl (by decide) rfl ?_
            refine k_goto h_o 5 dX1_sign_55 (by decide) ?_
            refine k_sub (lv' := [(0, .ref (al 0)), (1, .ref a_o), (2, .int (iI x_o)), (3, .int (iI (y_o + (O_o.2.2.2.1 ((p_o).toNat)) + 1))), (4, .int (iI (p_o + 1)))]) [2, 3, 4, 1, 0] rfl ?_
            exact ih5 (p_o + 1) (y_o + O_o.2.2.2.1 p_o.toNat + 1) (by omega) (by have := hga p_o.toNat; omega) (by rw [← hsg, m_sg_c hp.1 (by omega) (by omega) (by omega)]) (by omega)
          · refine k_bipush h_o dX1_sign_38 (by decide) ?_
            refine k_aload_n h_o 2 dX1_sign_40 rfl rfl ?_
            refine k_iload h_o 4 dX1_sign_41 rfl ?_
            refine k_callV (As := [.int (iI p_o)]) (rest := [.int (iI 97)]) h_o mX3_letterOf kq_4_15 (c_X3_letterOf hl0 hsp (by omega)) q_o hsp.1 rfl rfl rfl (Nat.le_of_ble_eq_true rfl) ⟨rfl, rfl, ⟨(Nat.le_of_ble_eq_true rfl), (Nat.le_of_ble_eq_true rfl)⟩, ⟨(Nat.le_of_ble_eq_true rfl), (Nat.le_of_ble_eq_true rfl)⟩⟩ dX1_sign_43 (kcI fun z43_o w43_o hp => ?_)
            obtain ⟨rfl, rfl⟩ := hp
            refine k_iadd h_o dX1_sign_46 ?_
            refine k_i2c h_o (by have := hlt ((p_o).toNat); omega) dX1_sign_47 ?_
            exact k_iret h_o hr (iI_chn (by have := hlt p_o.toNat; omega)) (⟨_, rfl, (by rw [← hsg, m_sg_b hp.1 (by omega) (by omega)]), rfl⟩) (by omega) (by omega) dX1_sign_48
        · refine k_bipush h_o dX1_sign_30 (by decide) ?_
          exact k_iret h_o hr rfl (⟨_, rfl, (by rw [← hsg, m_sg_a hp.1 (by omega) (by omega)]), rfl⟩) (by omega) (by omega) dX1_sign_32
  refine k_sub (lv' := [(0, .ref (al 0)), (1, .ref a_o), (2, .int (iI x_o)), (3, .int (iI 0)), (4, .int (iI 0))]) [2, 3, 4, 1, 0] rfl ?_
  exact L5 ((10 - 0 : Int).toNat + 1) 0 0 (by omega) (by omega) (by rfl) (by omega)
