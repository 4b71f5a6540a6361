set_option maxHeartbeats 300000 in
set_option maxRecDepth 100000 in
theorem c_X4_keep {E_o : kE} {l_o : Launch} (hl0 : l_o.stackTraces = false) {w_o : kW} {q_o a_o aS aA : Nat} {am : Int} {ac : Nat → Int} {al : Nat → Nat} {O_o : kO} {sk : Nat → Nat → Int} {t_o : Int} (htx : w_o q_o = some (a_o, ob 6 [.ref aS, .ref aA, .int (iI am)])) (hta : w_o (q_o + 4) = some (aA, ai 95 ac)) (hly : kLy w_o al O_o sk t_o) (hO : 0 ≤ O_o.1 ∧ O_o.1 ≤ 95) (hqq : 14 < q_o) : kM E_o l_o yX4_keep (.code yX4_keep cX4_keep 3 none :: kAL) { frames := 1, cells := 0, slots := 0, locals := 21 } 0 0 [.ref a_o, .ref (al 0)] w_o (pV (fun w2_o => kset (kset w_o q_o a_o (ob 6 [.ref aS, .ref aA, .int (iI O_o.1)])) (q_o + 4) aA (ai 95 (m_cpl ac O_o.2.1 O_o.1)) = w2_o)) := by
  refine kM_of hl0 (by decide +kernel) (Nat.le_of_ble_eq_true rfl) ?_
  intro X_o hXl h_o hr hin
  subst hXl
  show kG E_o X_o 3 0 0 w_o 0 [(0, .ref a_o), (1, .ref (al 0))] []
  refine k_aload_n h_o 0 dX4_keep_0 rfl rfl ?_
  refine k_aload_n h_o 1 dX4_keep_1 rfl rfl ?_
  refine k_get h_o 7 kf_X4_26 hly.1 rfl dX4_keep_2 ?_
  refine k_aload_n h_o 0 dX4_keep_5 rfl rfl ?_
  refine k_get h_o q_o kf_X4_18 htx rfl dX4_keep_6 ?_
  refine k_alen h_o (q_o + 4) hta rfl dX4_keep_9 ?_
  show kG E_o X_o 3 _ _ _ _ _ (.int (iI 95) :: _)
  refine k_min h_o (by omega) (by decide) kq_4_27 kq_3_67 kq_1_15 kq_3_68 ⟨(Nat.le_of_ble_eq_true rfl), (Nat.le_of_ble_eq_true rfl), (Nat.le_of_ble_eq_true rfl), (Nat.le_of_ble_eq_true rfl)⟩ dX4_keep_10 ?_
  refine k_top (z' := O_o.1) (if_pos (by omega)) ?_
  refine k_put (fs' := [.ref aS, .ref aA, .int (iI O_o.1)]) h_o q_o kf_X4_22 kt_X4_2 htx rfl rfl (Nat.le_of_ble_eq_true rfl) rfl dX4_keep_13 ?_
  refine k_iconst h_o dX4_keep_16 ?_
  refine k_istore_n (lv' := [(2, .int (iI 0)), (0, .ref a_o), (1, .ref (al 0))]) h_o dX4_keep_17 rfl (by decide) rfl ?_
  have L18 : ∀ (mm : Nat) (p_o : Int), (0 ≤ p_o ∧ p_o ≤ O_o.1) → (O_o.1 - p_o < (mm : Int)) → kG E_o X_o 3 0 0 (kset (kset w_o q_o a_o (ob 6 [.ref aS, .ref aA, .int (iI O_o.1)])) (q_o + 4) aA (ai 95 (m_cpl ac O_o.2.1 p_o))) 18 [(0, .ref a_o), (1, .ref (al 0)), (2, .int (iI p_o))] [] := by
    intro mm
    induction mm with
    | zero =>
      intro p_o hp hm_o
      exfalso; omega
    | succ mm ih18 =>
      intro p_o hp hm_o
      refine k_iload_n h_o 2 dX4_keep_18 rfl rfl ?_
      refine k_aload_n h_o 0 dX4_keep_19 rfl rfl ?_
      refine k_get h_o q_o kf_X4_22 ((kset_ne (by omega)).trans kset_eq) rfl dX4_keep_20 ?_
      refine k_icmp_ge h_o 43 (by omega) (by omega) dX4_keep_23 (by decide) (fun h23_o => ?_) (fun h23_o => ?_)
      · exact k_vret h_o hr (⟨rfl, (by rw [show p_o = O_o.1 by omega])⟩) (by omega) (by omega) dX4_keep_43
      · refine k_aload_n h_o 0 dX4_keep_26 rfl rfl ?_
        refine k_get h_o q_o kf_X4_18 ((kset_ne (by omega)).trans kset_eq) rfl dX4_keep_27 ?_
        refine k_iload_n h_o 2 dX4_keep_30 rfl rfl ?_
        refine k_aload_n h_o 1 dX4_keep_31 rfl rfl ?_
        refine k_iload_n h_o 2 dX4_keep_32 rfl rfl ?_
        refine k_callV (As := [.int (iI p_o)]) (rest := [.int (iI p_o), .ref aA]) h_o mX1_ruleNumber kq_4_28 (c_X1_ruleNumber hl0 ⟨((kset_ne (by omega)).trans ((kset_ne (by omega)).trans hly.1)), ((kset_ne (by omega)).trans ((kset_ne (by omega)).trans hly.2.1)), ((kset_ne (by omega)).trans ((kset_ne (by omega)).trans hly.2.2.1)), ((kset_ne (by omega)).trans ((kset_ne (by omega)).trans hly.2.2.2.1)), ((kset_ne (by omega)).trans ((kset_ne (by omega)).trans hly.2.2.2.2.1)), ((kset_ne (by omega)).trans ((kset_ne (by omega)).trans hly.2.2.2.2.2.1)), ((kset_ne (by omega)).trans ((kset_ne (by omega)).trans hly.2.2.2.2.2.2.1)), ((kset_ne (by omega)).trans ((kset_ne (by omega)).trans hly.2.2.2.2.2.2.2))⟩ (by omega)) 7 ((kset_ne (by omega)).trans ((kset_ne (by omega)).trans hly.1)) rfl rfl rfl (Nat.le_of_ble_eq_true rfl) ⟨rfl, rfl, ⟨(Nat.le_of_ble_eq_true rfl), (Nat.le_of_ble_eq_true rfl)⟩, ⟨(Nat.le_of_ble_eq_true rfl), (Nat.le_of_ble_eq_true rfl)⟩⟩ dX4_keep_33 (kcI fun z33_o w33_o hp => ?_)
        obtain ⟨rfl, rfl⟩ := hp
        refine k_iast h_o (q_o + 4) kset_eq (by omega) (by decide) dX4_keep_36 ?_
        refine k_iinc (lv' := [(2, .int (iI (p_o + 1))), (0, .ref a_o), (1, .ref (al 0))]) h_o 2 dX4_keep_37 rfl (by decide) rfl ?_
        refine k_goto h_o 18 dX4_keep_40 (by decide) ?_
        refine k_world (w' := (kset (kset w_o q_o a_o (ob 6 [.ref aS, .ref aA, .int (iI O_o.1)])) (q_o + 4) aA (ai 95 (m_cpl ac O_o.2.1 (p_o + 1))))) (by rw [kset_kset, m_cpl_s hp.1]) ?_
        refine k_sub (lv' := [(0, .ref a_o), (1, .ref (al 0)), (2, .int (iI (p_o + 1)))]) [1, 2, 0] rfl ?_
        exact ih18 (p_o + 1) (by omega) (by omega)
  refine k_world (w' := (kset (kset w_o q_o a_o (ob 6 [.ref aS, .ref aA, .int (iI O_o.1)])) (q_o + 4) aA (ai 95 (m_cpl ac O_o.2.1 0)))) (by rw [m_cpl_0]; exact (kset_id ((kset_ne (by omega)).trans hta)).symm) ?_
  refine k_sub (lv' := [(0, .ref a_o), (1, .ref (al 0)), (2, .int (iI 0))]) [1, 2, 0] rfl ?_
  exact L18 ((O_o.1 - 0 : Int).toNat + 1) 0 (by omega) (by omega)

set_option maxHeartbeats 300000 in
set_option maxRecDepth 100000 in
theorem c_X4_hasAccepted {E_o : kE} {l_o : Launch} (hl0 : l_o.stackTraces = false) {w_o : kW} {q_o a_o aS aA : Nat} {am : Int} {ac : Nat → Int} {al : Nat → Nat} {O_o : kO} {sk : Nat → Nat → Int} {t_o : Int} (htx : w_o q_o = some (a_o, ob 6 [.ref aS, .ref aA, .int (iI am)])) (hta : w_o (q_o + 4) = some (aA, ai 95 ac)) (hly : kLy w_o al O_o sk t_o) (hO : 0 ≤ O_o.1 ∧ O_o.1 ≤ 95) (hqq : 14 < q_o) (ham : 0 ≤ am ∧ am ≤ 95) (hOr : ∀ p_o, 0 ≤ O_o.2.1 p_o ∧ O_o.2.1 p_o < 12) (hac : ∀ p_o, 0 ≤ ac p_o ∧ ac p_o < 12) : kM E_o l_o yX4_hasAccepted (.code yX4_hasAccepted cX4_hasAccepted 3 (some .boolean) :: kAL) { frames := 1, cells := 0, slots := 0, locals := 21 } 0 0 [.ref a_o, .ref (al 0)] w_o (pI (fun z_o w2_o => bI (O_o.1 = am ∧ ∀ p_o : Nat, (p_o : Int) < am → ac p_o = O_o.2.1 p_o) = z_o ∧ w_o = w2_o)) := by
  refine kM_of hl0 (by decide +kernel) (Nat.le_of_ble_eq_true rfl) ?_
  intro X_o hXl h_o hr hin
  subst hXl
  show kG E_o X_o 3 0 0 w_o 0 [(0, .ref a_o), (1, .ref (al 0))] []
  refine k_aload_n h_o 1 dX4_hasAccepted_0 rfl rfl ?_
  refine k_get h_o 7 kf_X4_26 hly.1 rfl dX4_hasAccepted_1 ?_
  refine k_aload_n h_o 0 dX4_hasAccepted_4 rfl rfl ?_
  refine k_get h_o q_o kf_X4_22 htx rfl dX4_hasAccepted_5 ?_
  refine k_icmp_ne h_o 23 (by omega) (by omega) dX4_hasAccepted_8 (by decide) (fun h8_o => ?_) (fun h8_o => ?_)
  · refine k_iconst h_o dX4_hasAccepted_23 ?_
    exact k_iret h_o hr rfl (⟨_, rfl, (bI_f (fun q_o => h8_o q_o.1)), rfl⟩) (by omega) (by omega) dX4_hasAccepted_24
  · refine k_aload_n h_o 0 dX4_hasAccepted_11 rfl rfl ?_
    refine k_get h_o q_o kf_X4_22 htx rfl dX4_hasAccepted_12 ?_
    refine k_aload_n h_o 0 dX4_hasAccepted_15 rfl rfl ?_
    refine k_get h_o q_o kf_X4_18 htx rfl dX4_hasAccepted_16 ?_
    refine k_alen h_o (q_o + 4) hta rfl dX4_hasAccepted_19 ?_
    show kG E_o X_o 3 _ _ _ _ _ (.int (iI 95) :: _)
    refine k_icmp_le h_o 25 (by omega) (by decide) dX4_hasAccepted_20 (by decide) (fun h20_o => ?_) (fun h20_o => ?_)
    · refine k_iconst h_o dX4_hasAccepted_25 ?_
      refine k_istore_n (lv' := [(2, .int (iI 0)), (0, .ref a_o), (1, .ref (al 0))]) h_o dX4_hasAccepted_26 rfl (by decide) rfl ?_
      have L27 : ∀ (mm : Nat) (i_o : Int), (0 ≤ i_o ∧ i_o ≤ am) → (∀ p_o : Nat, (p_o : Int) < i_o → ac p_o = O_o.2.1 p_o) → (am - i_o < (mm : Int)) → kG E_o X_o 3 0 0 w_o 27 [(0, .ref a_o), (1, .ref (al 0)), (2, .int (iI i_o))] [] := by
        intro mm
        induction mm with
        | zero =>
          intro i_o hi_o hal hm_o
          exfalso; omega
        | succ mm ih27 =>
          intro i_o hi_o hal hm_o
          refine k_iload_n h_o 2 dX4_hasAccepted_27 rfl rfl ?_
          refine k_aload_n h_o 0 dX4_hasAccepted_28 rfl rfl ?_
          refine k_get h_o q_o kf_X4_22 htx rfl dX4_hasAccepted_29 ?_
          refine k_icmp_ge h_o 57 (by omega) (by omega) dX4_hasAccepted_32 (by decide) (fun h32_o => ?_) (fun h32_o => ?_)
          · refine k_iconst h_o dX4_hasAccepted_57 ?_
            exact k_iret h_o hr rfl (⟨_, rfl, (bI_t ⟨by omega, fun p_o hp => hal p_o (by omega)⟩), rfl⟩) (by omega) (by omega) dX4_hasAccepted_58
          · refine k_aload_n h_o 0 dX4_hasAccepted_35 rfl rfl ?_
            refine k_get h_o q_o kf_X4_18 htx rfl dX4_hasAccepted_36 ?_
            refine k_iload_n h_o 2 dX4_hasAccepted_39 rfl rfl ?_
            refine k_iald h_o (q_o + 4) hta (by omega) (by decide) dX4_hasAccepted_40 ?_
            refine k_aload_n h_o 1 dX4_hasAccepted_41 rfl rfl ?_
            refine k_iload_n h_o 2 dX4_hasAccepted_42 rfl rfl ?_
            refine k_callV (As := [.int (iI i_o)]) (rest := [.int (iI (ac ((i_o).toNat)))]) h_o mX1_ruleNumber kq_4_28 (c_X1_ruleNumber hl0 ⟨hly.1, hly.2.1, hly.2.2.1, hly.2.2.2.1, hly.2.2.2.2.1, hly.2.2.2.2.2.1, hly.2.2.2.2.2.2.1, hly.2.2.2.2.2.2.2⟩ (by omega)) 7 hly.1 rfl rfl rfl (Nat.le_of_ble_eq_true rfl) ⟨rfl, rfl, ⟨(Nat.le_of_ble_eq_true rfl), (Nat.le_of_ble_eq_true rfl)⟩, ⟨(Nat.le_of_ble_eq_true rfl), (Nat.le_of_ble_eq_true rfl)⟩⟩ dX4_hasAccepted_43 (kcI fun z43_o w43_o hp => ?_)
            obtain ⟨rfl, rfl⟩ := hp
            refine k_icmp_eq h_o 51 (by have := hac ((i_o).toNat); omega) (by have := hOr (i_o.toNat); omega) dX4_hasAccepted_46 (by decide) (fun h46_o => ?_) (fun h46_o => ?_)
            · refine k_iinc (lv' := [(2, .int (iI (i_o + 1))), (0, .ref a_o), (1, .ref (al 0))]) h_o 2 dX4_hasAccepted_51 rfl (by decide) rfl ?_
              refine k_goto h_o 27 dX4_hasAccepted_54 (by decide) ?_
              refine k_sub (lv' := [(0, .ref a_o), (1, .ref (al 0)), (2, .int (iI (i_o + 1)))]) [1, 2, 0] rfl ?_
              exact ih27 (i_o + 1) (by omega) (m_all_step hal hi_o.1 (by omega)) (by omega)
            · refine k_iconst h_o dX4_hasAccepted_49 ?_
              exact k_iret h_o hr rfl (⟨_, rfl, (bI_f (fun q_o => h46_o (q_o.2 i_o.toNat (by omega)))), rfl⟩) (by omega) (by omega) dX4_hasAccepted_50
      refine k_sub (lv' := [(0, .ref a_o), (1, .ref (al 0)), (2, .int (iI 0))]) [1, 2, 0] rfl ?_
      exact L27 ((am - 0 : Int).toNat + 1) 0 (by omega) m_all_0 (by omega)
    · exfalso; omega

set_option maxHeartbeats 300000 in
set_option maxRecDepth 100000 in
theorem c_X3_init {E_o : kE} {l_o : Launch} (hl0 : l_o.stackTraces = false) {w_o : kW} {q_o a_o : Nat} (ha : w_o q_o = some (a_o, ob 5 [.null, .null, .int (iI 0)])) : kM E_o l_o yX3_init (.code yX3_init cX3_init 1 none :: kAL) { frames := 1, cells := 2, slots := 510, locals := 12 } 2 510 [.ref a_o] w_o (pV (fun w2_o => (∃ la na : Nat, kSp w2_o q_o a_o la na (fun _ => 0) (fun _ => 0) 0) ∧ kEx w_o w2_o (fun x_o : Nat => q_o ≤ x_o ∧ x_o ≤ q_o + 2))) := by
  refine kM_of hl0 (by decide +kernel) (Nat.le_of_ble_eq_true rfl) ?_
  intro X_o hXl h_o hr hin
  subst hXl
  replace hin := hin rfl
  show kG E_o X_o 1 0 0 w_o 0 [(0, .ref a_o)] []
  refine k_aload_n h_o 0 dX3_init_0 rfl rfl ?_
  refine k_objInit h_o kq_1_55 kq_1_28 kq_1_29 ⟨(Nat.le_of_ble_eq_true rfl), (Nat.le_of_ble_eq_true rfl)⟩ dX3_init_1 ?_
  refine k_aload_n h_o 0 dX3_init_4 rfl rfl ?_
  refine k_bipush h_o dX3_init_5 (by decide) ?_
  refine k_newa (atype := .int) (t := 0) (N := 10) (a0 := (10, .inl (fun _ => iI 0))) h_o (q_o + 1) kq_1_69 rfl (fun cA => rfl) rfl (by decide) ⟨(Nat.le_of_ble_eq_true rfl), (Nat.le_of_ble_eq_true rfl)⟩ dX3_init_7 (fun la => ?_)
  refine k_putF (fs' := [.ref la, .null, .int (iI 0)]) h_o hin q_o kf_X3_9 kt_X3_0 ((kset_ne (by omega)).trans ha) rfl rfl (Nat.le_of_ble_eq_true rfl) rfl dX3_init_9 ?_
  refine k_aload_n h_o 0 dX3_init_12 rfl rfl ?_
  refine k_sipush h_o dX3_init_13 (by decide) ?_
  refine k_newa (atype := .int) (t := 0) (N := 500) (a0 := (500, .inl (fun _ => iI 0))) h_o (q_o + 2) kq_1_69 rfl (fun cA => rfl) rfl (by decide) ⟨(Nat.le_of_ble_eq_true rfl), (Nat.le_of_ble_eq_true rfl)⟩ dX3_init_16 (fun na => ?_)
  refine k_putF (fs' := [.ref la, .ref na, .int (iI 0)]) h_o hin q_o kf_X3_15 kt_X3_1 ((kset_ne (by omega)).trans kset_eq) rfl rfl (Nat.le_of_ble_eq_true rfl) rfl dX3_init_18 ?_
  refine k_aload_n h_o 0 dX3_init_21 rfl rfl ?_
  refine k_iconst h_o dX3_init_22 ?_
  refine k_put (fs' := [.ref la, .ref na, .int (iI 0)]) h_o q_o kf_X3_18 kt_X3_2 kset_eq rfl rfl (Nat.le_of_ble_eq_true rfl) rfl dX3_init_23 ?_
  exact k_vret h_o hr (⟨rfl, ⟨la, na, kset_eq, ((kset_ne (by omega)).trans ((kset_ne (by omega)).trans ((kset_ne (by omega)).trans ((kset_ne (by omega)).trans kset_eq)))), ((kset_ne (by omega)).trans ((kset_ne (by omega)).trans kset_eq))⟩, (fun x_o hx => ((kset_ne (by omega)).trans ((kset_ne (by omega)).trans ((kset_ne (by omega)).trans ((kset_ne (by omega)).trans ((kset_ne (by omega)).trans rfl))))))⟩) (by omega) (by omega) dX3_init_26

set_option maxHeartbeats 300000 in
set_option maxRecDepth 100000 in
theorem c_X2_init {E_o : kE} {l_o : Launch} (hl0 : l_o.stackTraces = false) {w_o : kW} {q_o a_o : Nat} {z0_o z1_o z2_o z3_o z4_o : Int} (ha : w_o q_o = some (a_o, ob 4 [.int (iI 0), .int (iI 0), .int (iI 0), .int (iI 0), .int (iI 0), .int (iI 0), .int (iI 0), .int (iI 0), .int (iI 0)])) : kM E_o l_o yX2_init (.code yX2_init cX2_init 6 none :: kAL) { frames := 1, cells := 0, slots := 0, locals := 12 } 0 0 [.ref a_o, .int (iI z0_o), .int (iI z1_o), .int (iI z2_o), .int (iI z3_o), .int (iI z4_o)] w_o (pV (fun w2_o => w2_o q_o = some (a_o, ob 4 [.int (iI z0_o), .int (iI z1_o), .int (iI z2_o), .int (iI z3_o), .int (iI z4_o), .int (iI 0), .int (iI 0), .int (iI 0), .int (iI 0)]) ∧ kEx w_o w2_o (fun x_o : Nat => x_o = q_o))) := by
  refine kM_of hl0 (by decide +kernel) (Nat.le_of_ble_eq_true rfl) ?_
  intro X_o hXl h_o hr hin
  subst hXl
  replace hin := hin rfl
  show kG E_o X_o 6 0 0 w_o 0 [(0, .ref a_o), (1, .int (iI z0_o)), (2, .int (iI z1_o)), (3, .int (iI z2_o)), (4, .int (iI z3_o)), (5, .int (iI z4_o))] []
  refine k_aload_n h_o 0 dX2_init_0 rfl rfl ?_
  refine k_objInit h_o kq_2_156 kq_1_28 kq_1_29 ⟨(Nat.le_of_ble_eq_true rfl), (Nat.le_of_ble_eq_true rfl)⟩ dX2_init_1 ?_
  refine k_aload_n h_o 0 dX2_init_4 rfl rfl ?_
  refine k_iconst h_o dX2_init_5 ?_
  refine k_put (fs' := [.int (iI 0), .int (iI 0), .int (iI 0), .int (iI 0), .int (iI 0), .int (iI 0), .int (iI 0), .int (iI 0), .int (iI 0)]) h_o q_o kf_X2_7 kt_X2_5 ha rfl rfl (Nat.le_of_ble_eq_true rfl) rfl dX2_init_6 ?_
  refine k_aload_n h_o 0 dX2_init_9 rfl rfl ?_
  refine k_iconst h_o dX2_init_10 ?_
  refine k_put (fs' := [.int (iI 0), .int (iI 0), .int (iI 0), .int (iI 0), .int (iI 0), .int (iI 0), .int (iI 0), .int (iI 0), .int (iI 0)]) h_o q_o kf_X2_13 kt_X2_6 kset_eq rfl rfl (Nat.le_of_ble_eq_true rfl) rfl dX2_init_11 ?_
  refine k_aload_n h_o 0 dX2_init_14 rfl rfl ?_
  refine k_iconst h_o dX2_init_15 ?_
  refine k_put (fs' := [.int (iI 0), .int (iI 0), .int (iI 0), .int (iI 0), .int (iI 0), .int (iI 0), .int (iI 0), .int (iI 0), .int (iI 0)]) h_o q_o kf_X2_16 kt_X2_7 kset_eq rfl rfl (Nat.le_of_ble_eq_true rfl) rfl dX2_init_16 ?_
  refine k_aload_n h_o 0 dX2_init_19 rfl rfl ?_
  refine k_iconst h_o dX2_init_20 ?_
  refine k_put (fs' := [.int (iI 0), .int (iI 0), .int (iI 0), .int (iI 0), .int (iI 0), .int (iI 0), .int (iI 0), .int (iI 0), .int (iI 0)]) h_o q_o kf_X2_19 kt_X2_8 kset_eq (by decide) rfl (Nat.le_of_ble_eq_true rfl) rfl dX2_init_21 ?_
  refine k_aload_n h_o 0 dX2_init_24 rfl rfl ?_
  refine k_iload_n h_o 1 dX2_init_25 rfl rfl ?_
  refine k_putF (fs' := [.int (iI z0_o), .int (iI 0), .int (iI 0), .int (iI 0), .int (iI 0), .int (iI 0), .int (iI 0), .int (iI 0), .int (iI 0)]) h_o hin q_o kf_X2_23 kt_X2_0 kset_eq rfl rfl (Nat.le_of_ble_eq_true rfl) rfl dX2_init_26 ?_
  refine k_aload_n h_o 0 dX2_init_29 rfl rfl ?_
  refine k_iload_n h_o 2 dX2_init_30 rfl rfl ?_
  refine k_putF (fs' := [.int (iI z0_o), .int (iI z1_o), .int (iI 0), .int (iI 0), .int (iI 0), .int (iI 0), .int (iI 0), .int (iI 0), .int (iI 0)]) h_o hin q_o kf_X2_26 kt_X2_1 kset_eq rfl rfl (Nat.le_of_ble_eq_true rfl) rfl dX2_init_31 ?_
  refine k_aload_n h_o 0 dX2_init_34 rfl rfl ?_
  refine k_iload_n h_o 3 dX2_init_35 rfl rfl ?_
  refine k_putF (fs' := [.int (iI z0_o), .int (iI z1_o), .int (iI z2_o), .int (iI 0), .int (iI 0), .int (iI 0), .int (iI 0), .int (iI 0), .int (iI 0)]) h_o hin q_o kf_X2_29 kt_X2_2 kset_eq rfl rfl (Nat.le_of_ble_eq_true rfl) rfl dX2_init_36 ?_
  refine k_aload_n h_o 0 dX2_init_39 rfl rfl ?_
  refine k_iload h_o 4 dX2_init_40 rfl ?_
  refine k_putF (fs' := [.int (iI z0_o), .int (iI z1_o), .int (iI z2_o), .int (iI z3_o), .int (iI 0), .int (iI 0), .int (iI 0), .int (iI 0), .int (iI 0)]) h_o hin q_o kf_X2_32 kt_X2_3 kset_eq rfl rfl (Nat.le_of_ble_eq_true rfl) rfl dX2_init_42 ?_
  refine k_aload_n h_o 0 dX2_init_45 rfl rfl ?_
  refine k_iload h_o 5 dX2_init_46 rfl ?_
  refine k_putF (fs' := [.int (iI z0_o), .int (iI z1_o), .int (iI z2_o), .int (iI z3_o), .int (iI z4_o), .int (iI 0), .int (iI 0), .int (iI 0), .int (iI 0)]) h_o hin q_o kf_X2_35 kt_X2_4 kset_eq rfl rfl (Nat.le_of_ble_eq_true rfl) rfl dX2_init_48 ?_
  exact k_vret h_o hr (⟨rfl, kset_eq, (fun x_o hx => ((kset_ne (by omega)).trans ((kset_ne (by omega)).trans ((kset_ne (by omega)).trans ((kset_ne (by omega)).trans ((kset_ne (by omega)).trans ((kset_ne (by omega)).trans ((kset_ne (by omega)).trans ((kset_ne (by omega)).trans ((kset_ne (by omega)).trans rfl))))))))))⟩) (by omega) (by omega) dX2_init_51

set_option maxHeartbeats 300000 in
set_option maxRecDepth 100000 in
theorem c_X0_init {E_o : kE} {l_o : Launch} (hl0 : l_o.stackTraces = false) {w_o : kW} {a_o : Nat} (ha : w_o 1 = some (a_o, ob 2 [.null, .int (iI 0)])) : kM E_o l_o yX0_init (.code yX0_init cX0_init 1 none :: kAL) { frames := 1, cells := 1, slots := 12, locals := 12 } 1 12 [.ref a_o] w_o (pV (fun w2_o => (∃ ap : Nat, w2_o 1 = some (a_o, ob 2 [.ref ap, .int (iI 0)]) ∧ w2_o 2 = some (ap, aq 5 12 (fun _ => none))) ∧ kEx w_o w2_o (fun x_o : Nat => x_o = 1 ∨ x_o = 2))) := by
  refine kM_of hl0 (by decide +kernel) (Nat.le_of_ble_eq_true rfl) ?_
  intro X_o hXl h_o hr hin
  subst hXl
  replace hin := hin rfl
  show kG E_o X_o 1 0 0 w_o 0 [(0, .ref a_o)] []
  refine k_aload_n h_o 0 dX0_init_0 rfl rfl ?_
  refine k_objInit h_o kq_1_35 kq_1_28 kq_1_29 ⟨(Nat.le_of_ble_eq_true rfl), (Nat.le_of_ble_eq_true rfl)⟩ dX0_init_1 ?_
  refine k_aload_n h_o 0 dX0_init_4 rfl rfl ?_
  refine k_bipush h_o dX0_init_5 (by decide) ?_
  refine k_anewa (t := 5) (N := 12) h_o 2 kq_1_36 h_o.2.2.2.2.2.1.2.2.1 rfl rfl (by decide) ⟨(Nat.le_of_ble_eq_true rfl), (Nat.le_of_ble_eq_true rfl)⟩ dX0_init_7 (fun ap => ?_)
  refine k_putF (fs' := [.ref ap, .int (iI 0)]) h_o hin 1 kf_X0_11 kt_X0_0 ((kset_ne (by decide)).trans ha) rfl rfl (Nat.le_of_ble_eq_true rfl) rfl dX0_init_10 ?_
  refine k_aload_n h_o 0 dX0_init_13 rfl rfl ?_
  refine k_iconst h_o dX0_init_14 ?_
  refine k_put (fs' := [.ref ap, .int (iI 0)]) h_o 1 kf_X0_17 kt_X0_1 kset_eq rfl rfl (Nat.le_of_ble_eq_true rfl) rfl dX0_init_15 ?_
  exact k_vret h_o hr (⟨rfl, ⟨ap, kset_eq, ((kset_ne (by decide)).trans ((kset_ne (by decide)).trans kset_eq))⟩, (fun x_o hx => ((kset_ne (by omega)).trans ((kset_ne (by omega)).trans ((kset_ne (by omega)).trans rfl))))⟩) (by omega) (by omega) dX0_init_18

set_option maxHeartbeats 300000 in
set_option maxRecDepth 100000 in
theorem c_X1_init {E_o : kE} {l_o : Launch} (hl0 : l_o.stackTraces = false) {w_o : kW} {a_o : Nat} (ha : w_o 7 = some (a_o, ob 3 [.null, .null, .null, .null, .null, .null, .null, .int (iI 0), .int (iI 0), .int (iI 0), .int (iI 0)])) : kM E_o l_o yX1_init (.code yX1_init cX1_init 1 none :: kAL) { frames := 1, cells := 7, slots := 155, locals := 12 } 7 155 [.ref a_o] w_o (pV (fun w2_o => (∃ al : Nat → Nat, al 0 = a_o ∧ kLy w2_o al (0, fun _ => 0, fun _ => 0, fun _ => 0, 0, 0) (fun _ _ => 0) 0) ∧ kEx w_o w2_o kLk)) := by
  refine kM_of hl0 (by decide +kernel) (Nat.le_of_ble_eq_true rfl) ?_
  intro X_o hXl h_o hr hin
  subst hXl
  replace hin := hin rfl
  show kG E_o X_o 1 0 0 w_o 0 [(0, .ref a_o)] []
  refine k_aload_n h_o 0 dX1_init_0 rfl rfl ?_
  refine k_objInit h_o kq_1_75 kq_1_28 kq_1_29 ⟨(Nat.le_of_ble_eq_true rfl), (Nat.le_of_ble_eq_true rfl)⟩ dX1_init_1 ?_
  refine k_aload_n h_o 0 dX1_init_4 rfl rfl ?_
  refine k_bipush h_o dX1_init_5 (by decide) ?_
  refine k_newa (atype := .int) (t := 0) (N := 95) (a0 := (95, .inl (fun _ => iI 0))) h_o 8 kq_1_69 rfl (fun cA => rfl) rfl (by decide) ⟨(Nat.le_of_ble_eq_true rfl), (Nat.le_of_ble_eq_true rfl)⟩ dX1_init_7 (fun b1 => ?_)
  refine k_putF (fs' := [.ref b1, .null, .null, .null, .null, .null, .null, .int (iI 0), .int (iI 0), .int (iI 0), .int (iI 0)]) h_o hin 7 kf_X1_9 kt_X1_0 ((kset_ne (by decide)).trans ha) rfl rfl (Nat.le_of_ble_eq_true rfl) rfl dX1_init_9 ?_
  refine k_aload_n h_o 0 dX1_init_12 rfl rfl ?_
  refine k_bipush h_o dX1_init_13 (by decide) ?_
  refine k_newa (atype := .int) (t := 0) (N := 10) (a0 := (10, .inl (fun _ => iI 0))) h_o 9 kq_1_69 rfl (fun cA => rfl) rfl (by decide) ⟨(Nat.le_of_ble_eq_true rfl), (Nat.le_of_ble_eq_true rfl)⟩ dX1_init_15 (fun b2 => ?_)
  refine k_putF (fs' := [.ref b1, .ref b2, .null, .null, .null, .null, .null, .int (iI 0), .int (iI 0), .int (iI 0), .int (iI 0)]) h_o hin 7 kf_X1_15 kt_X1_1 ((kset_ne (by decide)).trans kset_eq) rfl rfl (Nat.le_of_ble_eq_true rfl) rfl dX1_init_17 ?_
  refine k_aload_n h_o 0 dX1_init_20 rfl rfl ?_
  refine k_bipush h_o dX1_init_21 (by decide) ?_
  refine k_newa (atype := .int) (t := 0) (N := 10) (a0 := (10, .inl (fun _ => iI 0))) h_o 10 kq_1_69 rfl (fun cA => rfl) rfl (by decide) ⟨(Nat.le_of_ble_eq_true rfl), (Nat.le_of_ble_eq_true rfl)⟩ dX1_init_23 (fun b3 => ?_)
  refine k_putF (fs' := [.ref b1, .ref b2, .ref b3, .null, .null, .null, .null, .int (iI 0), .int (iI 0), .int (iI 0), .int (iI 0)]) h_o hin 7 kf_X1_18 kt_X1_2 ((kset_ne (by decide)).trans kset_eq) rfl rfl (Nat.le_of_ble_eq_true rfl) rfl dX1_init_25 ?_
  refine k_aload_n h_o 0 dX1_init_28 rfl rfl ?_
  refine k_bipush h_o dX1_init_29 (by decide) ?_
  refine k_newa (atype := .int) (t := 0) (N := 10) (a0 := (10, .inl (fun _ => iI 0))) h_o 11 kq_1_69 rfl (fun cA => rfl) rfl (by decide) ⟨(Nat.le_of_ble_eq_true rfl), (Nat.le_of_ble_eq_true rfl)⟩ dX1_init_31 (fun b4 => ?_)
  refine k_putF (fs' := [.ref b1, .ref b2, .ref b3, .ref b4, .null, .null, .null, .int (iI 0), .int (iI 0), .int (iI 0), .int (iI 0)]) h_o hin 7 kf_X1_21 kt_X1_3 ((kset_ne (by decide)).trans kset_eq) rfl rfl (Nat.le_of_ble_eq_true rfl) rfl dX1_init_33 ?_
  refine k_aload_n h_o 0 dX1_init_36 rfl rfl ?_
  refine k_bipush h_o dX1_init_37 (by decide) ?_
  refine k_newa (atype := .int) (t := 0) (N := 10) (a0 := (10, .inl (fun _ => iI 0))) h_o 12 kq_1_69 rfl (fun cA => rfl) rfl (by decide) ⟨(Nat.le_of_ble_eq_true rfl), (Nat.le_of_ble_eq_true rfl)⟩ dX1_init_39 (fun b5 => ?_)
  refine k_putF (fs' := [.ref b1, .ref b2, .ref b3, .ref b4, .ref b5, .null, .null, .int (iI 0), .int (iI 0), .int (iI 0), .int (iI 0)]) h_o hin 7 kf_X1_24 kt_X1_4 ((kset_ne (by decide)).trans kset_eq) rfl rfl (Nat.le_of_ble_eq_true rfl) rfl dX1_init_41 ?_
  refine k_aload_n h_o 0 dX1_init_44 rfl rfl ?_
  refine k_bipush h_o dX1_init_45 (by decide) ?_
  refine k_newa (atype := .int) (t := 0) (N := 10) (a0 := (10, .inl (fun _ => iI 0))) h_o 13 kq_1_69 rfl (fun cA => rfl) rfl (by decide) ⟨(Nat.le_of_ble_eq_true rfl), (Nat.le_of_ble_eq_true rfl)⟩ dX1_init_47 (fun b6 => ?_)
  refine k_putF (fs' := [.ref b1, .ref b2, .ref b3, .ref b4, .ref b5, .ref b6, .null, .int (iI 0), .int (iI 0), .int (iI 0), .int (iI 0)]) h_o hin 7 kf_X1_27 kt_X1_5 ((kset_ne (by decide)).trans kset_eq) rfl rfl (Nat.le_of_ble_eq_true rfl) rfl dX1_init_49 ?_
  refine k_aload_n h_o 0 dX1_init_52 rfl rfl ?_
  refine k_bipush h_o dX1_init_53 (by decide) ?_
  refine k_newa (atype := .int) (t := 0) (N := 10) (a0 := (10, .inl (fun _ => iI 0))) h_o 14 kq_1_69 rfl (fun cA => rfl) rfl (by decide) ⟨(Nat.le_of_ble_eq_true rfl), (Nat.le_of_ble_eq_true rfl)⟩ dX1_init_55 (fun b7 => ?_)
  refine k_putF (fs' := [.ref b1, .ref b2, .ref b3, .ref b4, .ref b5, .ref b6, .ref b7, .int (iI 0), .int (iI 0), .int (iI 0), .int (iI 0)]) h_o hin 7 kf_X1_30 kt_X1_6 ((kset_ne (by decide)).trans kset_eq) rfl rfl (Nat.le_of_ble_eq_true rfl) rfl dX1_init_57 ?_
  refine k_aload_n h_o 0 dX1_init_60 rfl rfl ?_
  refine k_iconst h_o dX1_init_61 ?_
  refine k_put (fs' := [.ref b1, .ref b2, .ref b3, .ref b4, .ref b5, .ref b6, .ref b7, .int (iI 0), .int (iI 0), .int (iI 0), .int (iI 0)]) h_o 7 kf_X1_33 kt_X1_7 kset_eq rfl rfl (Nat.le_of_ble_eq_true rfl) rfl dX1_init_62 ?_
  refine k_aload_n h_o 0 dX1_init_65 rfl rfl ?_
  refine k_iconst h_o dX1_init_66 ?_
  refine k_put (fs' := [.ref b1, .ref b2, .ref b3, .ref b4, .ref b5, .ref b6, .ref b7, .int (iI 0), .int (iI 0), .int (iI 0), .int (iI 0)]) h_o 7 kf_X1_37 kt_X1_8 kset_eq rfl rfl (Nat.le_of_ble_eq_true rfl) rfl dX1_init_67 ?_
  refine k_aload_n h_o 0 dX1_init_70 rfl rfl ?_
  refine k_iconst h_o dX1_init_71 ?_
  refine k_put (fs' := [.ref b1, .ref b2, .ref b3, .ref b4, .ref b5, .ref b6, .ref b7, .int (iI 0), .int (iI 0), .int (iI 0), .int (iI 0)]) h_o 7 kf_X1_40 kt_X1_9 kset_eq rfl rfl (Nat.le_of_ble_eq_true rfl) rfl dX1_init_72 ?_
  refine k_aload_n h_o 0 dX1_init_75 rfl rfl ?_
  refine k_iconst h_o dX1_init_76 ?_
  refine k_put (fs' := [.ref b1, .ref b2, .ref b3, .ref b4, .ref b5, .ref b6, .ref b7, .int (iI 0), .int (iI 0), .int (iI 0), .int (iI 0)]) h_o 7 kf_X1_43 kt_X1_10 kset_eq rfl rfl (Nat.le_of_ble_eq_true rfl) rfl dX1_init_77 ?_
  exact k_vret h_o hr (⟨rfl, ⟨fun k_o => match k_o with | 0 => a_o | 1 => b1 | 2 => b2 | 3 => b3 | 4 => b4 | 5 => b5 | 6 => b6 | _ => b7, rfl, ⟨kset_eq, ((kset_ne (by decide)).trans ((kset_ne (by decide)).trans ((kset_ne (by decide)).trans ((kset_ne (by decide)).trans ((kset_ne (by decide)).trans ((kset_ne (by decide)).trans ((kset_ne (by decide)).trans ((kset_ne (by decide)).trans ((kset_ne (by decide)).trans ((kset_ne (by decide)).trans ((kset_ne (by decide)).trans ((kset_ne (by decide)).trans ((kset_ne (by decide)).trans ((kset_ne (by decide)).trans ((kset_ne (by decide)).trans ((kset_ne (by decide)).trans ((kset_ne (by decide)).trans kset_eq))))))))))))))))), ((kset_ne (by decide)).trans ((kset_ne (by decide)).trans ((kset_ne (by decide)).trans ((kset_ne (by decide)).trans ((kset_ne (by decide)).trans ((kset_ne (by decide)).trans ((kset_ne (by decide)).trans ((kset_ne (by decide)).trans ((kset_ne (by decide)).trans ((kset_ne (by decide)).trans ((kset_ne (by decide)).trans ((kset_ne (by decide)).trans ((kset_ne (by decide)).trans ((kset_ne (by decide)).trans ((kset_ne (by decide)).trans kset_eq))))))))))))))), ((kset_ne (by decide)).trans ((kset_ne (by decide)).trans ((kset_ne (by decide)).trans ((kset_ne (by decide)).trans ((kset_ne (by decide)).trans ((kset_ne (by decide)).trans ((kset_ne (by decide)).trans ((kset_ne (by decide)).trans ((kset_ne (by decide)).trans ((kset_ne (by decide)).trans ((kset_ne (by decide)).trans ((kset_ne (by decide)).trans ((kset_ne (by decide)).trans kset_eq))))))))))))), ((kset_ne (by decide)).trans ((kset_ne (by decide)).trans ((kset_ne (by decide)).trans ((kset_ne (by decide)).trans ((kset_ne (by decide)).trans ((kset_ne (by decide)).trans ((kset_ne (by decide)).trans ((kset_ne (by decide)).trans ((kset_ne (by decide)).trans ((kset_ne (by decide)).trans ((kset_ne (by decide)).trans kset_eq))))))))))), ((kset_ne (by decide)).trans ((kset_ne (by decide)).trans ((kset_ne (by decide)).trans ((kset_ne (by decide)).trans ((kset_ne (by decide)).trans ((kset_ne (by decide)).trans ((kset_ne (by decide)).trans ((kset_ne (by decide)).trans ((kset_ne (by decide)).trans kset_eq))))))))), ((kset_ne (by decide)).trans ((kset_ne (by decide)).trans ((kset_ne (by decide)).trans ((kset_ne (by decide)).trans ((kset_ne (by decide)).trans ((kset_ne (by decide)).trans ((kset_ne (by decide)).trans kset_eq))))))), ((kset_ne (by decide)).trans ((kset_ne (by decide)).trans ((kset_ne (by decide)).trans ((kset_ne (by decide)).trans ((kset_ne (by decide)).trans kset_eq)))))⟩⟩, (fun x_o hx => ((kset_ne (by omega)).trans ((kset_ne (by omega)).trans ((kset_ne (by omega)).trans ((kset_ne (by omega)).trans ((kset_ne (by omega)).trans ((kset_ne (by omega)).trans ((kset_ne (by omega)).trans ((kset_ne (by omega)).trans ((kset_ne (by omega)).trans ((kset_ne (by omega)).trans ((kset_ne (by omega)).trans ((kset_ne (by omega)).trans ((kset_ne (by omega)).trans ((kset_ne (by omega)).trans ((kset_ne (by omega)).trans ((kset_ne (by omega)).trans ((kset_ne (by omega)).trans ((kset_ne (by omega)).trans rfl)))))))))))))))))))⟩) (by omega) (by omega) dX1_init_80

set_option maxHeartbeats 300000 in
set_option maxRecDepth 100000 in
theorem c_X5_init {E_o : kE} {l_o : Launch} (hl0 : l_o.stackTraces = false) {w_o : kW} {a_o : Nat} (ha : w_o 15 = some (a_o, ob 7 [.null])) : kM E_o l_o yX5_init (.code yX5_init cX5_init 1 none :: kAL) { frames := 1, cells := 1, slots := 500, locals := 12 } 1 500 [.ref a_o] w_o (pV (fun w2_o => (∃ ak : Nat, w2_o 15 = some (a_o, ob 7 [.ref ak]) ∧ w2_o 16 = some (ak, ai 500 (fun _ => 0))) ∧ kEx w_o w2_o (fun x_o : Nat => x_o = 15 ∨ x_o = 16))) := by
  refine kM_of hl0 (by decide +kernel) (Nat.le_of_ble_eq_true rfl) ?_
  intro X_o hXl h_o hr hin
  subst hXl
  replace hin := hin rfl
  show kG E_o X_o 1 0 0 w_o 0 [(0, .ref a_o)] []
  refine k_aload_n h_o 0 dX5_init_0 rfl rfl ?_
  refine k_objInit h_o kq_1_119 kq_1_28 kq_1_29 ⟨(Nat.le_of_ble_eq_true rfl), (Nat.le_of_ble_eq_true rfl)⟩ dX5_init_1 ?_
  refine k_aload_n h_o 0 dX5_init_4 rfl rfl ?_
  refine k_sipush h_o dX5_init_5 (by decide) ?_
  refine k_newa (atype := .int) (t := 0) (N := 500) (a0 := (500, .inl (fun _ => iI 0))) h_o 16 kq_1_69 rfl (fun cA => rfl) rfl (by decide) ⟨(Nat.le_of_ble_eq_true rfl), (Nat.le_of_ble_eq_true rfl)⟩ dX5_init_8 (fun ak => ?_)
  refine k_putF (fs' := [.ref ak]) h_o hin 15 kf_X5_9 kt_X5_0 ((kset_ne (by decide)).trans ha) rfl rfl (Nat.le_of_ble_eq_true rfl) rfl dX5_init_10 ?_
  exact k_vret h_o hr (⟨rfl, ⟨ak, kset_eq, ((kset_ne (by decide)).trans kset_eq)⟩, (fun x_o hx => ((kset_ne (by omega)).trans ((kset_ne (by omega)).trans rfl)))⟩) (by omega) (by omega) dX5_init_13

set_option maxHeartbeats 300000 in
set_option maxRecDepth 100000 in
theorem c_X4_init {E_o : kE} {l_o : Launch} (hl0 : l_o.stackTraces = false) {w_o : kW} {q_o a_o : Nat} (ha : w_o q_o = some (a_o, ob 6 [.null, .null, .int (iI 0)])) : kM E_o l_o yX4_init (.code yX4_init cX4_init 1 none :: kAL) { frames := 2, cells := 4, slots := 608, locals := 32 } 4 608 [.ref a_o] w_o (pV (fun w2_o => (∃ aS la na aA : Nat, w2_o q_o = some (a_o, ob 6 [.ref aS, .ref aA, .int (iI 0)]) ∧ kSp w2_o (q_o + 1) aS la na (fun _ => 0) (fun _ => 0) 0 ∧ w2_o (q_o + 4) = some (aA, ai 95 (fun _ => 0))) ∧ kEx w_o w2_o (fun x_o : Nat => q_o ≤ x_o ∧ x_o ≤ q_o + 4))) := by
  refine kM_of hl0 (by decide +kernel) (Nat.le_of_ble_eq_true rfl) ?_
  intro X_o hXl h_o hr hin
  subst hXl
  replace hin := hin rfl
  show kG E_o X_o 1 0 0 w_o 0 [(0, .ref a_o)] []
  refine k_aload_n h_o 0 dX4_init_0 rfl rfl ?_
  refine k_objInit h_o kq_3_43 kq_1_28 kq_1_29 ⟨(Nat.le_of_ble_eq_true rfl), (Nat.le_of_ble_eq_true rfl)⟩ dX4_init_1 ?_
  refine k_aload_n h_o 0 dX4_init_4 rfl rfl ?_
  refine k_new (ci := 5) (fs := [.null, .null, .int (iI 0)]) h_o (q_o + 1) rfl kwl_X3 tyX3_ok kq_3_44 kq_1_51 kq_1_3 (fun j_o hj => by rcases j_o with _ | _ | _ | _ | _ | _ | _ | _ | _ | _ | _ | _ | _ | _ | _ | _ | _ | _ | _ | _ | _ | _ | _ | _ | _ | j_o <;> first | rfl | omega) ⟨(Nat.le_of_ble_eq_true rfl), (Nat.le_of_ble_eq_true rfl)⟩ dX4_init_5 (fun aS => ?_)
  refine k_dup h_o dX4_init_8 rfl ?_
  refine k_callIN (As := []) (rest := [.ref aS, .ref a_o]) h_o mX3_init kq_3_45 (c_X3_init hl0 kset_eq) rfl rfl (Nat.le_of_ble_eq_true rfl) ⟨rfl, rfl, ⟨(Nat.le_of_ble_eq_true rfl), (Nat.le_of_ble_eq_true rfl)⟩, ⟨(Nat.le_of_ble_eq_true rfl), (Nat.le_of_ble_eq_true rfl)⟩⟩ dX4_init_9 (kcV fun wq14 hp => ?_)
  obtain ⟨⟨la14, na14, hspq14⟩, hexq14⟩ := hp
  refine k_putF (fs' := [.ref aS, .null, .int (iI 0)]) h_o hin q_o kf_X4_12 kt_X4_0 ((hexq14 q_o (by omega)).trans ((kset_ne (by omega)).trans ha)) rfl rfl (Nat.le_of_ble_eq_true rfl) rfl dX4_init_12 ?_
  refine k_aload_n h_o 0 dX4_init_15 rfl rfl ?_
  refine k_bipush h_o dX4_init_16 (by decide) ?_
  refine k_newa (atype := .int) (t := 0) (N := 95) (a0 := (95, .inl (fun _ => iI 0))) h_o (q_o + 4) kq_1_69 rfl (fun cA => rfl) rfl (by decide) ⟨(Nat.le_of_ble_eq_true rfl), (Nat.le_of_ble_eq_true rfl)⟩ dX4_init_18 (fun aA => ?_)
  refine k_putF (fs' := [.ref aS, .ref aA, .int (iI 0)]) h_o hin q_o kf_X4_18 kt_X4_1 ((kset_ne (by omega)).trans kset_eq) rfl rfl (Nat.le_of_ble_eq_true rfl) rfl dX4_init_20 ?_
  refine k_aload_n h_o 0 dX4_init_23 rfl rfl ?_
  refine k_iconst h_o dX4_init_24 ?_
  refine k_put (fs' := [.ref aS, .ref aA, .int (iI 0)]) h_o q_o kf_X4_22 kt_X4_2 kset_eq rfl rfl (Nat.le_of_ble_eq_true rfl) rfl dX4_init_25 ?_
  exact k_vret h_o hr (⟨rfl, ⟨aS, la14, na14, aA, kset_eq, ⟨((kset_ne (by omega)).trans ((kset_ne (by omega)).trans ((kset_ne (by omega)).trans ((kset_ne (by omega)).trans hspq14.1)))), ((kset_ne (by omega)).trans ((kset_ne (by omega)).trans ((kset_ne (by omega)).trans ((kset_ne (by omega)).trans hspq14.2.1)))), ((kset_ne (by omega)).trans ((kset_ne (by omega)).trans ((kset_ne (by omega)).trans ((kset_ne (by omega)).trans hspq14.2.2))))⟩, ((kset_ne (by omega)).trans ((kset_ne (by omega)).trans kset_eq))⟩, (fun x_o hx => ((kset_ne (by omega)).trans ((kset_ne (by omega)).trans ((kset_ne (by omega)).trans ((kset_ne (by omega)).trans ((hexq14 _ (by omega)).trans ((kset_ne (by omega)).trans rfl)))))))⟩) (by omega) (by omega) dX4_init_28
