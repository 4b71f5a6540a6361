set_option maxHeartbeats 4000000 in
set_option maxRecDepth 100000 in
theorem c_X7_setRank {E_o : kE} {l_o : Launch} (hl0 : l_o.stackTraces = false) {w_o : kW} {bd : Nat → Nat} {nr : Nat} {g_o : Nat → Nat → Int} {T_o : Nat} {lts : Nat → Nat → Int} {cs : Nat → Int} {acs : Nat → Nat → Int} {ams : Nat → Int} {rel fnd th : Int} {x_o v_o : Int} (hst : kMu w_o bd nr g_o T_o lts cs acs ams rel fnd th) (hx : -2147483648 ≤ x_o ∧ x_o < 2147483648) (hv : -2147483648 ≤ v_o ∧ v_o < 2147483648) : kM E_o l_o yX7_setRank (.code yX7_setRank cX7_setRank 4 (some .int) :: kAL) { frames := 2, cells := 0, slots := 0, locals := 46 } 0 0 [.ref (bd 25), .int (iI x_o), .int (iI v_o)] w_o (pI (fun z_o w2_o => ((m_live g_o nr x_o ∧ 0 ≤ v_o ∧ v_o ≤ 9) ∧ g_o 5 x_o.toNat = z_o ∧ kMv w_o w2_o bd nr (m_up g_o 5 x_o.toNat v_o) T_o lts cs acs ams rel fnd 0) ∨ (¬ (m_live g_o nr x_o) ∧ kMv w_o w2_o bd nr g_o T_o lts cs acs ams rel fnd 1) ∨ ((m_live g_o nr x_o ∧ ¬ (0 ≤ v_o ∧ v_o ≤ 9)) ∧ kMv w_o w2_o bd nr g_o T_o lts cs acs ams rel fnd 2))) := by
  refine kM_of hl0 (by decide +kernel) (Nat.le_of_ble_eq_true rfl) ?_
  intro X_o hXl h_o hr hin
  subst hXl
  obtain ⟨ltA, acA, mnA, sz, rx, N_o, tm, tr, sh, sg, sm, dp, hmd, hI, hrx, hN_o⟩ := hst
  obtain ⟨hwf, hnr, hT6, hmn, hg0, htx⟩ := id hI
  show kG E_o X_o 4 0 0 w_o 0 [(0, .ref (bd 25)), (1, .int (iI x_o)), (2, .int (iI v_o))] []
  refine k_aload_n h_o 0 dX7_setRank_0 rfl rfl ?_
  refine k_aload_n h_o 0 dX7_setRank_1 rfl rfl ?_
  refine k_iload_n h_o 1 dX7_setRank_2 rfl rfl ?_
  refine k_callV (As := [.int (iI x_o)]) (rest := [.ref (bd 25)]) h_o mX7_isRule kq_4_234 (c_X7_isRule hl0 hmd hwf hnr (by omega)) 19 hmd.1 rfl rfl rfl (Nat.le_of_ble_eq_true rfl) ⟨rfl, rfl, ⟨(Nat.le_of_ble_eq_true rfl), (Nat.le_of_ble_eq_true rfl)⟩, ⟨(Nat.le_of_ble_eq_true rfl), (Nat.le_of_ble_eq_true rfl)⟩⟩ dX7_setRank_3 (kcI fun z3_o w3_o hp => ?_)
  obtain ⟨rfl, rfl⟩ := hp
  refine k_ifBne h_o 13 dX7_setRank_6 (by decide) (fun h6_o => ?_) (fun h6_o => ?_)
  · refine k_iload_n h_o 2 dX7_setRank_13 rfl rfl ?_
    refine k_i2l h_o (by omega) dX7_setRank_14 ?_
    refine k_lconst (z := 0) h_o dX7_setRank_15 (by decide) ?_
    refine k_ldc2l (z := 9) h_o kq_5_2 dX7_setRank_16 (by decide) ?_
    refine k_callS (As := [.long (lI v_o), .long (lI 0), .long (lI 9)]) (rest := [.ref (bd 25)]) h_o mX7_in kq_4_216 (c_X7_in hl0 (by omega) (by decide) (by decide)) rfl rfl (Nat.le_of_ble_eq_true rfl) ⟨rfl, rfl, ⟨(Nat.le_of_ble_eq_true rfl), (Nat.le_of_ble_eq_true rfl)⟩, ⟨(Nat.le_of_ble_eq_true rfl), (Nat.le_of_ble_eq_true rfl)⟩⟩ dX7_setRank_19 (kcI fun z19_o w19_o hp => ?_)
    obtain ⟨rfl, rfl⟩ := hp
    refine k_ifBne h_o 29 dX7_setRank_22 (by decide) (fun h22_o => ?_) (fun h22_o => ?_)
    · refine k_iconst h_o dX7_setRank_29 ?_
      refine k_put (fs' := [.ref (bd 0), .ref (bd 1), .ref (bd 2), .ref (bd 3), .ref (bd 4), .ref (bd 5), .ref (bd 6), .int (iI ((nr : Nat) : Int)), .ref (bd 8), .ref (bd 9), .ref (bd 10), .ref (bd 11), .int (iI ((T_o : Nat) : Int)), .long (lI fnd), .int (iI rel), .ref (bd 15), .int (iI sz), .ref (bd 17), .ref (bd 18), .int (iI tm), .ref (bd 20), .ref (bd 21), .int (iI sm), .int (iI dp), .int (iI 0)]) h_o 19 kf_X7_60 kt_X7_24 hmd.1 rfl rfl (Nat.le_of_ble_eq_true rfl) rfl dX7_setRank_30 ?_
      refine k_aload_n h_o 0 dX7_setRank_33 rfl rfl ?_
      refine k_get h_o 19 kf_X7_60 kset_eq rfl dX7_setRank_34 ?_
      refine k_ifle h_o 42 (by decide) dX7_setRank_37 (by decide) (fun h37_o => ?_) (fun h37_o => ?_)
      · have hmdB : (kMd ((kset w_o 19 (bd 25) (ob 9 [.ref (bd 0), .ref (bd 1), .ref (bd 2), .ref (bd 3), .ref (bd 4), .ref (bd 5), .ref (bd 6), .int (iI ((nr : Nat) : Int)), .ref (bd 8), .ref (bd 9), .ref (bd 10), .ref (bd 11), .int (iI ((T_o : Nat) : Int)), .long (lI fnd), .int (iI rel), .ref (bd 15), .int (iI sz), .ref (bd 17), .ref (bd 18), .int (iI tm), .ref (bd 20), .ref (bd 21), .int (iI sm), .int (iI dp), .int (iI 0)]))) bd nr g_o T_o cs ams ltA acA mnA rel fnd sz rx N_o tm tr sh sg sm dp 0) := ⟨kset_eq, ((kset_ne (by decide)).trans hmd.2.1), ((kset_ne (by decide)).trans hmd.2.2.1), ((kset_ne (by decide)).trans hmd.2.2.2.1), ((kset_ne (by decide)).trans hmd.2.2.2.2.1), ((kset_ne (by decide)).trans hmd.2.2.2.2.2.1), ((kset_ne (by decide)).trans hmd.2.2.2.2.2.2.1), ((kset_ne (by decide)).trans hmd.2.2.2.2.2.2.2.1), ((kset_ne (by decide)).trans hmd.2.2.2.2.2.2.2.2.1), ((kset_ne (by decide)).trans hmd.2.2.2.2.2.2.2.2.2.1), ((kset_ne (by decide)).trans hmd.2.2.2.2.2.2.2.2.2.2.1), ((kset_ne (by decide)).trans hmd.2.2.2.2.2.2.2.2.2.2.2.1), ((kset_ne (by decide)).trans hmd.2.2.2.2.2.2.2.2.2.2.2.2.1), ((kset_ne (by decide)).trans hmd.2.2.2.2.2.2.2.2.2.2.2.2.2.1), ((kset_ne (by decide)).trans hmd.2.2.2.2.2.2.2.2.2.2.2.2.2.2.1), ((kset_ne (by decide)).trans hmd.2.2.2.2.2.2.2.2.2.2.2.2.2.2.2.1), ((kset_ne (by decide)).trans hmd.2.2.2.2.2.2.2.2.2.2.2.2.2.2.2.2)⟩
        obtain ⟨hl1, hl2, hl3⟩ := id h6_o
        refine k_aload_n h_o 0 dX7_setRank_42 rfl rfl ?_
        refine k_get h_o 19 kf_X7_19 hmdB.1 rfl dX7_setRank_43 ?_
        refine k_iload_n h_o 1 dX7_setRank_46 rfl rfl ?_
        refine k_iald h_o 23 hmdB.2.2.2.2.1 (by omega) (by decide) dX7_setRank_47 ?_
        refine k_istore_n (lv' := [(3, .int (iI (g_o 5 ((x_o).toNat)))), (0, .ref (bd 25)), (1, .int (iI x_o)), (2, .int (iI v_o))]) h_o dX7_setRank_48 rfl (by decide) rfl ?_
        refine k_aload_n h_o 1 dX7_setRank_49 rfl rfl ?_
        refine k_get h_o 19 kf_X7_19 hmdB.1 rfl dX7_setRank_50 ?_
        refine k_iload_n h_o 2 dX7_setRank_53 rfl rfl ?_
        refine k_iload_n h_o 3 dX7_setRank_54 rfl rfl ?_
        refine k_iast h_o 23 hmdB.2.2.2.2.1 (by omega) (by decide) dX7_setRank_55 ?_
        have hmdU := hmdB.u5 (r := x_o.toNat) (v := v_o)
        refine k_iload_n h_o 0 dX7_setRank_56 rfl rfl ?_
        have hmdZ : (kMd ((kset (kset w_o 19 (bd 25) (ob 9 [.ref (bd 0), .ref (bd 1), .ref (bd 2), .ref (bd 3), .ref (bd 4), .ref (bd 5), .ref (bd 6), .int (iI ((nr : Nat) : Int)), .ref (bd 8), .ref (bd 9), .ref (bd 10), .ref (bd 11), .int (iI ((T_o : Nat) : Int)), .long (lI fnd), .int (iI rel), .ref (bd 15), .int (iI sz), .ref (bd 17), .ref (bd 18), .int (iI tm), .ref (bd 20), .ref (bd 21), .int (iI sm), .int (iI dp), .int (iI 0)])) 23 (bd 3) (ai 12 (kup (g_o 5) x_o.toNat v_o)))) bd nr ((m_up g_o 5 x_o.toNat v_o)) T_o cs ams ltA acA mnA rel fnd sz rx N_o tm tr sh sg sm dp 0) := ⟨hmdU.1, hmdU.2.1, hmdU.2.2.1, hmdU.2.2.2.1, hmdU.2.2.2.2.1, hmdU.2.2.2.2.2.1, hmdU.2.2.2.2.2.2.1, hmdU.2.2.2.2.2.2.2.1, hmdU.2.2.2.2.2.2.2.2.1, hmdU.2.2.2.2.2.2.2.2.2.1, hmdU.2.2.2.2.2.2.2.2.2.2.1, hmdU.2.2.2.2.2.2.2.2.2.2.2.1, hmdU.2.2.2.2.2.2.2.2.2.2.2.2.1, hmdU.2.2.2.2.2.2.2.2.2.2.2.2.2.1, hmdU.2.2.2.2.2.2.2.2.2.2.2.2.2.2.1, hmdU.2.2.2.2.2.2.2.2.2.2.2.2.2.2.2.1, hmdU.2.2.2.2.2.2.2.2.2.2.2.2.2.2.2.2⟩
        exact k_iret h_o hr rfl (⟨_, rfl, Or.inl ⟨⟨h6_o, h22_o⟩, rfl, ⟨⟨_, _, _, _, _, _, _, _, _, _, _, _, hmdZ, hI.up (by omega) (Or.inl ⟨rfl, h22_o⟩), hrx, hN_o⟩, (fun x_o hx => ((kset_ne (by omega)).trans ((kset_ne (by omega)).trans rfl)))⟩⟩⟩) (by omega) (by omega) dX7_setRank_57
      · exfalso; omega
    · refine k_iconst h_o dX7_setRank_25 ?_
      refine k_goto h_o 30 dX7_setRank_26 (by decide) ?_
      refine k_put (fs' := [.ref (bd 0), .ref (bd 1), .ref (bd 2), .ref (bd 3), .ref (bd 4), .ref (bd 5), .ref (bd 6), .int (iI ((nr : Nat) : Int)), .ref (bd 8), .ref (bd 9), .ref (bd 10), .ref (bd 11), .int (iI ((T_o : Nat) : Int)), .long (lI fnd), .int (iI rel), .ref (bd 15), .int (iI sz), .ref (bd 17), .ref (bd 18), .int (iI tm), .ref (bd 20), .ref (bd 21), .int (iI sm), .int (iI dp), .int (iI 2)]) h_o 19 kf_X7_60 kt_X7_24 hmd.1 rfl rfl (Nat.le_of_ble_eq_true rfl) rfl dX7_setRank_30 ?_
      refine k_aload_n h_o 0 dX7_setRank_33 rfl rfl ?_
      refine k_get h_o 19 kf_X7_60 kset_eq rfl dX7_setRank_34 ?_
      refine k_ifle h_o 42 (by decide) dX7_setRank_37 (by decide) (fun h37_o => ?_) (fun h37_o => ?_)
      · exfalso; omega
      · refine k_iconst h_o dX7_setRank_40 ?_
        have hmdZ : (kMd ((kset w_o 19 (bd 25) (ob 9 [.ref (bd 0), .ref (bd 1), .ref (bd 2), .ref (bd 3), .ref (bd 4), .ref (bd 5), .ref (bd 6), .int (iI ((nr : Nat) : Int)), .ref (bd 8), .ref (bd 9), .ref (bd 10), .ref (bd 11), .int (iI ((T_o : Nat) : Int)), .long (lI fnd), .int (iI rel), .ref (bd 15), .int (iI sz), .ref (bd 17), .ref (bd 18), .int (iI tm), .ref (bd 20), .ref (bd 21), .int (iI sm), .int (iI dp), .int (iI 2)]))) bd nr g_o T_o cs ams ltA acA mnA rel fnd sz rx N_o tm tr sh sg sm dp 2) := ⟨kset_eq, ((kset_ne (by decide)).trans hmd.2.1), ((kset_ne (by decide)).trans hmd.2.2.1), ((kset_ne (by decide)).trans hmd.2.2.2.1), ((kset_ne (by decide)).trans hmd.2.2.2.2.1), ((kset_ne (by decide)).trans hmd.2.2.2.2.2.1), ((kset_ne (by decide)).trans hmd.2.2.2.2.2.2.1), ((kset_ne (by decide)).trans hmd.2.2.2.2.2.2.2.1), ((kset_ne (by decide)).trans hmd.2.2.2.2.2.2.2.2.1), ((kset_ne (by decide)).trans hmd.2.2.2.2.2.2.2.2.2.1), ((kset_ne (by decide)).trans hmd.2.2.2.2.2.2.2.2.2.2.1), ((kset_ne (by decide)).trans hmd.2.2.2.2.2.2.2.2.2.2.2.1), ((kset_ne (by decide)).trans hmd.2.2.2.2.2.2.2.2.2.2.2.2.1), ((kset_ne (by decide)).trans hmd.2.2.2.2.2.2.2.2.2.2.2.2.2.1), ((kset_ne (by decide)).trans hmd.2.2.2.2.2.2.2.2.2.2.2.2.2.2.1), ((kset_ne (by decide)).trans hmd.2.2.2.2.2.2.2.2.2.2.2.2.2.2.2.1), ((kset_ne (by decide)).trans hmd.2.2.2.2.2.2.2.2.2.2.2.2.2.2.2.2)⟩
        exact k_iret h_o hr rfl (⟨_, rfl, Or.inr (Or.inr ⟨⟨h6_o, h22_o⟩, ⟨⟨_, _, _, _, _, _, _, _, _, _, _, _, hmdZ, hI, hrx, hN_o⟩, (fun x_o hx => ((kset_ne (by omega)).trans rfl))⟩⟩)⟩) (by omega) (by omega) dX7_setRank_41
  · refine k_iconst h_o dX7_setRank_9 ?_
    refine k_goto h_o 30 dX7_setRank_10 (by decide) ?_
    refine k_put (fs' := [.ref (bd 0), .ref (bd 1), .ref (bd 2), .ref (bd 3), .ref (bd 4), .ref (bd 5), .ref (bd 6), .int (iI ((nr : Nat) : Int)), .ref (bd 8), .ref (bd 9), .ref (bd 10), .ref (bd 11), .int (iI ((T_o : Nat) : Int)), .long (lI fnd), .int (iI rel), .ref (bd 15), .int (iI sz), .ref (bd 17), .ref (bd 18), .int (iI tm), .ref (bd 20), .ref (bd 21), .int (iI sm), .int (iI dp), .int (iI 1)]) h_o 19 kf_X7_60 kt_X7_24 hmd.1 rfl rfl (Nat.le_of_ble_eq_true rfl) rfl dX7_setRank_30 ?_
    refine k_aload_n h_o 0 dX7_setRank_33 rfl rfl ?_
    refine k_get h_o 19 kf_X7_60 kset_eq rfl dX7_setRank_34 ?_
    refine k_ifle h_o 42 (by decide) dX7_setRank_37 (by decide) (fun h37_o => ?_) (fun h37_o => ?_)
    · exfalso; omega
    · refine k_iconst h_o dX7_setRank_40 ?_
      have hmdZ : (kMd ((kset w_o 19 (bd 25) (ob 9 [.ref (bd 0), .ref (bd 1), .ref (bd 2), .ref (bd 3), .ref (bd 4), .ref (bd 5), .ref (bd 6), .int (iI ((nr : Nat) : Int)), .ref (bd 8), .ref (bd 9), .ref (bd 10), .ref (bd 11), .int (iI ((T_o : Nat) : Int)), .long (lI fnd), .int (iI rel), .ref (bd 15), .int (iI sz), .ref (bd 17), .ref (bd 18), .int (iI tm), .ref (bd 20), .ref (bd 21), .int (iI sm), .int (iI dp), .int (iI 1)]))) bd nr g_o T_o cs ams ltA acA mnA rel fnd sz rx N_o tm tr sh sg sm dp 1) := ⟨kset_eq, ((kset_ne (by decide)).trans hmd.2.1), ((kset_ne (by decide)).trans hmd.2.2.1), ((kset_ne (by decide)).trans hmd.2.2.2.1), ((kset_ne (by decide)).trans hmd.2.2.2.2.1), ((kset_ne (by decide)).trans hmd.2.2.2.2.2.1), ((kset_ne (by decide)).trans hmd.2.2.2.2.2.2.1), ((kset_ne (by decide)).trans hmd.2.2.2.2.2.2.2.1), ((kset_ne (by decide)).trans hmd.2.2.2.2.2.2.2.2.1), ((kset_ne (by decide)).trans hmd.2.2.2.2.2.2.2.2.2.1), ((kset_ne (by decide)).trans hmd.2.2.2.2.2.2.2.2.2.2.1), ((kset_ne (by decide)).trans hmd.2.2.2.2.2.2.2.2.2.2.2.1), ((kset_ne (by decide)).trans hmd.2.2.2.2.2.2.2.2.2.2.2.2.1), ((kset_ne (by decide)).trans hmd.2.2.2.2.2.2.2.2.2.2.2.2.2.1), ((kset_ne (by decide)).trans hmd.2.2.2.2.2.2.2.2.2.2.2.2.2.2.1), ((kset_ne (by decide)).trans hmd.2.2.2.2.2.2.2.2.2.2.2.2.2.2.2.1), ((kset_ne (by decide)).trans hmd.2.2.2.2.2.2.2.2.2.2.2.2.2.2.2.2)⟩
      exact k_iret h_o hr rfl (⟨_, rfl, Or.inr (Or.inl ⟨h6_o, ⟨⟨_, _, _, _, _, _, _, _, _, _, _, _, hmdZ, hI, hrx, hN_o⟩, (fun x_o hx => ((kset_ne (by omega)).trans rfl))⟩⟩)⟩) (by omega) (by omega) dX7_setRank_41

set_option maxHeartbeats 4000000 in
set_option maxRecDepth 100000 in
theorem c_X7_setStyle {E_o : kE} {l_o : Launch} (hl0 : l_o.stackTraces = false) {w_o : kW} {bd : Nat → Nat} {nr : Nat} {g_o : Nat → Nat → Int} {T_o : Nat} {lts : Nat → Nat → Int} {cs : Nat → Int} {acs : Nat → Nat → Int} {ams : Nat → Int} {rel fnd th : Int} {x_o u_o v_o : Int} (hst : kMu w_o bd nr g_o T_o lts cs acs ams rel fnd th) (hx : -2147483648 ≤ x_o ∧ x_o < 2147483648) (hu : -2147483648 ≤ u_o ∧ u_o < 2147483648) (hv : -2147483648 ≤ v_o ∧ v_o < 2147483648) : kM E_o l_o yX7_setStyle (.code yX7_setStyle cX7_setStyle 5 (some .int) :: kAL) { frames := 2, cells := 0, slots := 0, locals := 46 } 0 0 [.ref (bd 25), .int (iI x_o), .int (iI u_o), .int (iI v_o)] w_o (pI (fun z_o w2_o => ((m_live g_o nr x_o ∧ (0 ≤ u_o ∧ u_o ≤ 9) ∧ 0 ≤ v_o ∧ v_o ≤ 3) ∧ 10 * g_o 6 x_o.toNat + g_o 7 x_o.toNat = z_o ∧ kMv w_o w2_o bd nr (m_up (m_up g_o 6 x_o.toNat u_o) 7 x_o.toNat v_o) T_o lts cs acs ams rel fnd 0) ∨ (¬ (m_live g_o nr x_o) ∧ kMv w_o w2_o bd nr g_o T_o lts cs acs ams rel fnd 1) ∨ ((m_live g_o nr x_o ∧ ¬ ((0 ≤ u_o ∧ u_o ≤ 9) ∧ 0 ≤ v_o ∧ v_o ≤ 3)) ∧ kMv w_o w2_o bd nr g_o T_o lts cs acs ams rel fnd 2))) := by
  refine kM_of hl0 (by decide +kernel) (Nat.le_of_ble_eq_true rfl) ?_
  intro X_o hXl h_o hr hin
  subst hXl
  obtain ⟨ltA, acA, mnA, sz, rx, N_o, tm, tr, sh, sg, sm, dp, hmd, hI, hrx, hN_o⟩ := hst
  obtain ⟨hwf, hnr, hT6, hmn, hg0, htx⟩ := id hI
  show kG E_o X_o 5 0 0 w_o 0 [(0, .ref (bd 25)), (1, .int (iI x_o)), (2, .int (iI u_o)), (3, .int (iI v_o))] []
  refine k_aload_n h_o 0 dX7_setStyle_0 rfl rfl ?_
  refine k_aload_n h_o 0 dX7_setStyle_1 rfl rfl ?_
  refine k_iload_n h_o 1 dX7_setStyle_2 rfl rfl ?_
  refine k_callV (As := [.int (iI x_o)]) (rest := [.ref (bd 25)]) h_o mX7_isRule kq_4_234 (c_X7_isRule hl0 hmd hwf hnr (by omega)) 19 hmd.1 rfl rfl rfl (Nat.le_of_ble_eq_true rfl) ⟨rfl, rfl, ⟨(Nat.le_of_ble_eq_true rfl), (Nat.le_of_ble_eq_true rfl)⟩, ⟨(Nat.le_of_ble_eq_true rfl), (Nat.le_of_ble_eq_true rfl)⟩⟩ dX7_setStyle_3 (kcI fun z3_o w3_o hp => ?_)
  obtain ⟨rfl, rfl⟩ := hp
  refine k_ifBne h_o 13 dX7_setStyle_6 (by decide) (fun h6_o => ?_) (fun h6_o => ?_)
  · refine k_iload_n h_o 2 dX7_setStyle_13 rfl rfl ?_
    refine k_i2l h_o (by omega) dX7_setStyle_14 ?_
    refine k_lconst (z := 0) h_o dX7_setStyle_15 (by decide) ?_
    refine k_ldc2l (z := 9) h_o kq_5_2 dX7_setStyle_16 (by decide) ?_
    refine k_callS (As := [.long (lI u_o), .long (lI 0), .long (lI 9)]) (rest := [.ref (bd 25)]) h_o mX7_in kq_4_216 (c_X7_in hl0 (by omega) (by decide) (by decide)) rfl rfl (Nat.le_of_ble_eq_true rfl) ⟨rfl, rfl, ⟨(Nat.le_of_ble_eq_true rfl), (Nat.le_of_ble_eq_true rfl)⟩, ⟨(Nat.le_of_ble_eq_true rfl), (Nat.le_of_ble_eq_true rfl)⟩⟩ dX7_setStyle_19 (kcI fun z19_o w19_o hp => ?_)
    obtain ⟨rfl, rfl⟩ := hp
    refine k_ifBeq h_o 37 dX7_setStyle_22 (by decide) (fun h22_o => ?_) (fun h22_o => ?_)
    · refine k_iconst h_o dX7_setStyle_37 ?_
      refine k_goto h_o 42 dX7_setStyle_38 (by decide) ?_
      refine k_put (fs' := [.ref (bd 0), .ref (bd 1), .ref (bd 2), .ref (bd 3), .ref (bd 4), .ref (bd 5), .ref (bd 6), .int (iI ((nr : Nat) : Int)), .ref (bd 8), .ref (bd 9), .ref (bd 10), .ref (bd 11), .int (iI ((T_o : Nat) : Int)), .long (lI fnd), .int (iI rel), .ref (bd 15), .int (iI sz), .ref (bd 17), .ref (bd 18), .int (iI tm), .ref (bd 20), .ref (bd 21), .int (iI sm), .int (iI dp), .int (iI 2)]) h_o 19 kf_X7_60 kt_X7_24 hmd.1 rfl rfl (Nat.le_of_ble_eq_true rfl) rfl dX7_setStyle_42 ?_
      refine k_aload_n h_o 0 dX7_setStyle_45 rfl rfl ?_
      refine k_get h_o 19 kf_X7_60 kset_eq rfl dX7_setStyle_46 ?_
      refine k_ifle h_o 54 (by decide) dX7_setStyle_49 (by decide) (fun h49_o => ?_) (fun h49_o => ?_)
      · exfalso; omega
      · refine k_iconst h_o dX7_setStyle_52 ?_
        have hmdZ : (kMd ((kset w_o 19 (bd 25) (ob 9 [.ref (bd 0), .ref (bd 1), .ref (bd 2), .ref (bd 3), .ref (bd 4), .ref (bd 5), .ref (bd 6), .int (iI ((nr : Nat) : Int)), .ref (bd 8), .ref (bd 9), .ref (bd 10), .ref (bd 11), .int (iI ((T_o : Nat) : Int)), .long (lI fnd), .int (iI rel), .ref (bd 15), .int (iI sz), .ref (bd 17), .ref (bd 18), .int (iI tm), .ref (bd 20), .ref (bd 21), .int (iI sm), .int (iI dp), .int (iI 2)]))) bd nr g_o T_o cs ams ltA acA mnA rel fnd sz rx N_o tm tr sh sg sm dp 2) := ⟨kset_eq, ((kset_ne (by decide)).trans hmd.2.1), ((kset_ne (by decide)).trans hmd.2.2.1), ((kset_ne (by decide)).trans hmd.2.2.2.1), ((kset_ne (by decide)).trans hmd.2.2.2.2.1), ((kset_ne (by decide)).trans hmd.2.2.2.2.2.1), ((kset_ne (by decide)).trans hmd.2.2.2.2.2.2.1), ((kset_ne (by decide)).trans hmd.2.2.2.2.2.2.2.1), ((kset_ne (by decide)).trans hmd.2.2.2.2.2.2.2.2.1), ((kset_ne (by decide)).trans hmd.2.2.2.2.2.2.2.2.2.1), ((kset_ne (by decide)).trans hmd.2.2.2.2.2.2.2.2.2.2.1), ((kset_ne (by decide)).trans hmd.2.2.2.2.2.2.2.2.2.2.2.1), ((kset_ne (by decide)).trans hmd.2.2.2.2.2.2.2.2.2.2.2.2.1), ((kset_ne (by decide)).trans hmd.2.2.2.2.2.2.2.2.2.2.2.2.2.1), ((kset_ne (by decide)).trans hmd.2.2.2.2.2.2.2.2.2.2.2.2.2.2.1), ((kset_ne (by decide)).trans hmd.2.2.2.2.2.2.2.2.2.2.2.2.2.2.2.1), ((kset_ne (by decide)).trans hmd.2.2.2.2.2.2.2.2.2.2.2.2.2.2.2.2)⟩
        exact k_iret h_o hr rfl (⟨_, rfl, Or.inr (Or.inr ⟨⟨h6_o, (by omega)⟩, ⟨⟨_, _, _, _, _, _, _, _, _, _, _, _, hmdZ, hI, hrx, hN_o⟩, (fun x_o hx => ((kset_ne (by omega)).trans rfl))⟩⟩)⟩) (by omega) (by omega) dX7_setStyle_53
    · refine k_iload_n h_o 3 dX7_setStyle_25 rfl rfl ?_
      refine k_i2l h_o (by omega) dX7_setStyle_26 ?_
      refine k_lconst (z := 0) h_o dX7_setStyle_27 (by decide) ?_
      refine k_ldc2l (z := 3) h_o kq_5_7 dX7_setStyle_28 (by decide) ?_
      refine k_callS (As := [.long (lI v_o), .long (lI 0), .long (lI 3)]) (rest := [.ref (bd 25)]) h_o mX7_in kq_4_216 (c_X7_in hl0 (by omega) (by decide) (by decide)) rfl rfl (Nat.le_of_ble_eq_true rfl) ⟨rfl, rfl, ⟨(Nat.le_of_ble_eq_true rfl), (Nat.le_of_ble_eq_true rfl)⟩, ⟨(Nat.le_of_ble_eq_true rfl), (Nat.le_of_ble_eq_true rfl)⟩⟩ dX7_setStyle_31 (kcI fun z31_o w31_o hp => ?_)
      obtain ⟨rfl, rfl⟩ := hp
      refine k_ifBne h_o 41 dX7_setStyle_34 (by decide) (fun h34_o => ?_) (fun h34_o => ?_)
      · refine k_iconst h_o dX7_setStyle_41 ?_
        refine k_put (fs' := [.ref (bd 0), .ref (bd 1), .ref (bd 2), .ref (bd 3), .ref (bd 4), .ref (bd 5), .ref (bd 6), .int (iI ((nr : Nat) : Int)), .ref (bd 8), .ref (bd 9), .ref (bd 10), .ref (bd 11), .int (iI ((T_o : Nat) : Int)), .long (lI fnd), .int (iI rel), .ref (bd 15), .int (iI sz), .ref (bd 17), .ref (bd 18), .int (iI tm), .ref (bd 20), .ref (bd 21), .int (iI sm), .int (iI dp), .int (iI 0)]) h_o 19 kf_X7_60 kt_X7_24 hmd.1 rfl rfl (Nat.le_of_ble_eq_true rfl) rfl dX7_setStyle_42 ?_
        refine k_aload_n h_o 0 dX7_setStyle_45 rfl rfl ?_
        refine k_get h_o 19 kf_X7_60 kset_eq rfl dX7_setStyle_46 ?_
        refine k_ifle h_o 54 (by decide) dX7_setStyle_49 (by decide) (fun h49_o => ?_) (fun h49_o => ?_)
        · have hmdB : (kMd ((kset w_o 19 (bd 25) (ob 9 [.ref (bd 0), .ref (bd 1), .ref (bd 2), .ref (bd 3), .ref (bd 4), .ref (bd 5), .ref (bd 6), .int (iI ((nr : Nat) : Int)), .ref (bd 8), .ref (bd 9), .ref (bd 10), .ref (bd 11), .int (iI ((T_o : Nat) : Int)), .long (lI fnd), .int (iI rel), .ref (bd 15), .int (iI sz), .ref (bd 17), .ref (bd 18), .int (iI tm), .ref (bd 20), .ref (bd 21), .int (iI sm), .int (iI dp), .int (iI 0)]))) bd nr g_o T_o cs ams ltA acA mnA rel fnd sz rx N_o tm tr sh sg sm dp 0) := ⟨kset_eq, ((kset_ne (by decide)).trans hmd.2.1), ((kset_ne (by decide)).trans hmd.2.2.1), ((kset_ne (by decide)).trans hmd.2.2.2.1), ((kset_ne (by decide)).trans hmd.2.2.2.2.1), ((kset_ne (by decide)).trans hmd.2.2.2.2.2.1), ((kset_ne (by decide)).trans hmd.2.2.2.2.2.2.1), ((kset_ne (by decide)).trans hmd.2.2.2.2.2.2.2.1), ((kset_ne (by decide)).trans hmd.2.2.2.2.2.2.2.2.1), ((kset_ne (by decide)).trans hmd.2.2.2.2.2.2.2.2.2.1), ((kset_ne (by decide)).trans hmd.2.2.2.2.2.2.2.2.2.2.1), ((kset_ne (by decide)).trans hmd.2.2.2.2.2.2.2.2.2.2.2.1), ((kset_ne (by decide)).trans hmd.2.2.2.2.2.2.2.2.2.2.2.2.1), ((kset_ne (by decide)).trans hmd.2.2.2.2.2.2.2.2.2.2.2.2.2.1), ((kset_ne (by decide)).trans hmd.2.2.2.2.2.2.2.2.2.2.2.2.2.2.1), ((kset_ne (by decide)).trans hmd.2.2.2.2.2.2.2.2.2.2.2.2.2.2.2.1), ((kset_ne (by decide)).trans hmd.2.2.2.2.2.2.2.2.2.2.2.2.2.2.2.2)⟩
          obtain ⟨hl1, hl2, hl3⟩ := id h6_o
          obtain ⟨hw1, hg5, hg6, hg7, hg8⟩ := hwf x_o.toNat (by omega)
          refine k_bipush h_o dX7_setStyle_54 (by decide) ?_
          refine k_aload_n h_o 0 dX7_setStyle_56 rfl rfl ?_
          refine k_get h_o 19 kf_X7_22 hmdB.1 rfl dX7_setStyle_57 ?_
          refine k_iload_n h_o 1 dX7_setStyle_60 rfl rfl ?_
          refine k_iald h_o 24 hmdB.2.2.2.2.2.1 (by omega) (by decide) dX7_setStyle_61 ?_
          refine k_imul h_o dX7_setStyle_62 ?_
          refine k_aload_n h_o 0 dX7_setStyle_63 rfl rfl ?_
          refine k_get h_o 19 kf_X7_25 hmdB.1 rfl dX7_setStyle_64 ?_
          refine k_iload_n h_o 1 dX7_setStyle_67 rfl rfl ?_
          refine k_iald h_o 25 hmdB.2.2.2.2.2.2.1 (by omega) (by decide) dX7_setStyle_68 ?_
          refine k_iadd h_o dX7_setStyle_69 ?_
          refine k_istore (lv' := [(4, .int (iI ((10 * (g_o 6 ((x_o).toNat))) + (g_o 7 ((x_o).toNat))))), (0, .ref (bd 25)), (1, .int (iI x_o)), (2, .int (iI u_o)), (3, .int (iI v_o))]) h_o dX7_setStyle_70 (by decide) rfl ?_
          refine k_aload_n h_o 1 dX7_setStyle_72 rfl rfl ?_
          refine k_get h_o 19 kf_X7_22 hmdB.1 rfl dX7_setStyle_73 ?_
          refine k_iload_n h_o 2 dX7_setStyle_76 rfl rfl ?_
          refine k_iload_n h_o 3 dX7_setStyle_77 rfl rfl ?_
          refine k_iast h_o 24 hmdB.2.2.2.2.2.1 (by omega) (by decide) dX7_setStyle_78 ?_
          refine k_aload_n h_o 1 dX7_setStyle_79 rfl rfl ?_
          refine k_get h_o 19 kf_X7_25 ((kset_ne (by decide)).trans hmdB.1) rfl dX7_setStyle_80 ?_
          refine k_iload_n h_o 2 dX7_setStyle_83 rfl rfl ?_
          refine k_iload_n h_o 4 dX7_setStyle_84 rfl rfl ?_
          refine k_iast h_o 25 ((kset_ne (by decide)).trans hmdB.2.2.2.2.2.2.1) (by omega) (by decide) dX7_setStyle_85 ?_
          have hmdU0 := (hmdB.u6 (r := x_o.toNat) (v := u_o)).u7 (r := x_o.toNat) (v := v_o)
          rw [show m_up g_o 6 x_o.toNat u_o 7 = g_o 7 from m_up_o (by decide)] at hmdU0
          have hmdU := hmdU0
          refine k_iload h_o 0 dX7_setStyle_86 rfl ?_
          have hmdZ : (kMd ((kset (kset (kset w_o 19 (bd 25) (ob 9 [.ref (bd 0), .ref (bd 1), .ref (bd 2), .ref (bd 3), .ref (bd 4), .ref (bd 5), .ref (bd 6), .int (iI ((nr : Nat) : Int)), .ref (bd 8), .ref (bd 9), .ref (bd 10), .ref (bd 11), .int (iI ((T_o : Nat) : Int)), .long (lI fnd), .int (iI rel), .ref (bd 15), .int (iI sz), .ref (bd 17), .ref (bd 18), .int (iI tm), .ref (bd 20), .ref (bd 21), .int (iI sm), .int (iI dp), .int (iI 0)])) 24 (bd 4) (ai 12 (kup (g_o 6) x_o.toNat u_o))) 25 (bd 5) (ai 12 (kup (g_o 7) x_o.toNat v_o)))) bd nr ((m_up (m_up g_o 6 x_o.toNat u_o) 7 x_o.toNat v_o)) T_o cs ams ltA acA mnA rel fnd sz rx N_o tm tr sh sg sm dp 0) := ⟨hmdU.1, hmdU.2.1, hmdU.2.2.1, hmdU.2.2.2.1, hmdU.2.2.2.2.1, hmdU.2.2.2.2.2.1, hmdU.2.2.2.2.2.2.1, hmdU.2.2.2.2.2.2.2.1, hmdU.2.2.2.2.2.2.2.2.1, hmdU.2.2.2.2.2.2.2.2.2.1, hmdU.2.2.2.2.2.2.2.2.2.2.1, hmdU.2.2.2.2.2.2.2.2.2.2.2.1, hmdU.2.2.2.2.2.2.2.2.2.2.2.2.1, hmdU.2.2.2.2.2.2.2.2.2.2.2.2.2.1, hmdU.2.2.2.2.2.2.2.2.2.2.2.2.2.2.1, hmdU.2.2.2.2.2.2.2.2.2.2.2.2.2.2.2.1, hmdU.2.2.2.2.2.2.2.2.2.2.2.2.2.2.2.2⟩
          exact k_iret h_o hr rfl (⟨_, rfl, Or.inl ⟨⟨h6_o, h22_o, h34_o⟩, rfl, ⟨⟨_, _, _, _, _, _, _, _, _, _, _, _, hmdZ, (hI.up (f := 6) (by omega) (by omega)).up (by omega) (by omega), hrx, hN_o⟩, (fun x_o hx => ((kset_ne (by omega)).trans ((kset_ne (by omega)).trans ((kset_ne (by omega)).trans rfl))))⟩⟩⟩) (by omega) (by omega) dX7_setStyle_88
        · exfalso; omega
      · refine k_iconst h_o dX7_setStyle_37 ?_
        refine k_goto h_o 42 dX7_setStyle_38 (by decide) ?_
        refine k_put (fs' := [.ref (bd 0), .ref (bd 1), .ref (bd 2), .ref (bd 3), .ref (bd 4), .ref (bd 5), .ref (bd 6), .int (iI ((nr : Nat) : Int)), .ref (bd 8), .ref (bd 9), .ref (bd 10), .ref (bd 11), .int (iI ((T_o : Nat) : Int)), .long (lI fnd), .int (iI rel), .ref (bd 15), .int (iI sz), .ref (bd 17), .ref (bd 18), .int (iI tm), .ref (bd 20), .ref (bd 21), .int (iI sm), .int (iI dp), .int (iI 2)]) h_o 19 kf_X7_60 kt_X7_24 hmd.1 rfl rfl (Nat.le_of_ble_eq_true rfl) rfl dX7_setStyle_42 ?_
        refine k_aload_n h_o 0 dX7_setStyle_45 rfl rfl ?_
        refine k_get h_o 19 kf_X7_60 kset_eq rfl dX7_setStyle_46 ?_
        refine k_ifle h_o 54 (by decide) dX7_setStyle_49 (by decide) (fun h49_o => ?_) (fun h49_o => ?_)
        · exfalso; omega
        · refine k_iconst h_o dX7_setStyle_52 ?_
          have hmdZ : (kMd ((kset w_o 19 (bd 25) (ob 9 [.ref (bd 0), .ref (bd 1), .ref (bd 2), .ref (bd 3), .ref (bd 4), .ref (bd 5), .ref (bd 6), .int (iI ((nr : Nat) : Int)), .ref (bd 8), .ref (bd 9), .ref (bd 10), .ref (bd 11), .int (iI ((T_o : Nat) : Int)), .long (lI fnd), .int (iI rel), .ref (bd 15), .int (iI sz), .ref (bd 17), .ref (bd 18), .int (iI tm), .ref (bd 20), .ref (bd 21), .int (iI sm), .int (iI dp), .int (iI 2)]))) bd nr g_o T_o cs ams ltA acA mnA rel fnd sz rx N_o tm tr sh sg sm dp 2) := ⟨kset_eq, ((kset_ne (by decide)).trans hmd.2.1), ((kset_ne (by decide)).trans hmd.2.2.1), ((kset_ne (by decide)).trans hmd.2.2.2.1), ((kset_ne (by decide)).trans hmd.2.2.2.2.1), ((kset_ne (by decide)).trans hmd.2.2.2.2.2.1), ((kset_ne (by decide)).trans hmd.2.2.2.2.2.2.1), ((kset_ne (by decide)).trans hmd.2.2.2.2.2.2.2.1), ((kset_ne (by decide)).trans hmd.2.2.2.2.2.2.2.2.1), ((kset_ne (by decide)).trans hmd.2.2.2.2.2.2.2.2.2.1), ((kset_ne (by decide)).trans hmd.2.2.2.2.2.2.2.2.2.2.1), ((kset_ne (by decide)).trans hmd.2.2.2.2.2.2.2.2.2.2.2.1), ((kset_ne (by decide)).trans hmd.2.2.2.2.2.2.2.2.2.2.2.2.1), ((kset_ne (by decide)).trans hmd.2.2.2.2.2.2.2.2.2.2.2.2.2.1), ((kset_ne (by decide)).trans hmd.2.2.2.2.2.2.2.2.2.2.2.2.2.2.1), ((kset_ne (by decide)).trans hmd.2.2.2.2.2.2.2.2.2.2.2.2.2.2.2.1), ((kset_ne (by decide)).trans hmd.2.2.2.2.2.2.2.2.2.2.2.2.2.2.2.2)⟩
          exact k_iret h_o hr rfl (⟨_, rfl, Or.inr (Or.inr ⟨⟨h6_o, (by omega)⟩, ⟨⟨_, _, _, _, _, _, _, _, _, _, _, _, hmdZ, hI, hrx, hN_o⟩, (fun x_o hx => ((kset_ne (by omega)).trans rfl))⟩⟩)⟩) (by omega) (by omega) dX7_setStyle_53
  · refine k_iconst h_o dX7_setStyle_9 ?_
    refine k_goto h_o 42 dX7_setStyle_10 (by decide) ?_
    refine k_put (fs' := [.ref (bd 0), .ref (bd 1), .ref (bd 2), .ref (bd 3), .ref (bd 4), .ref (bd 5), .ref (bd 6), .int (iI ((nr : Nat) : Int)), .ref (bd 8), .ref (bd 9), .ref (bd 10), .ref (bd 11), .int (iI ((T_o : Nat) : Int)), .long (lI fnd), .int (iI rel), .ref (bd 15), .int (iI sz), .ref (bd 17), .ref (bd 18), .int (iI tm), .ref (bd 20), .ref (bd 21), .int (iI sm), .int (iI dp), .int (iI 1)]) h_o 19 kf_X7_60 kt_X7_24 hmd.1 rfl rfl (Nat.le_of_ble_eq_true rfl) rfl dX7_setStyle_42 ?_
    refine k_aload_n h_o 0 dX7_setStyle_45 rfl rfl ?_
    refine k_get h_o 19 kf_X7_60 kset_eq rfl dX7_setStyle_46 ?_
    refine k_ifle h_o 54 (by decide) dX7_setStyle_49 (by decide) (fun h49_o => ?_) (fun h49_o => ?_)
    · exfalso; omega
    · refine k_iconst h_o dX7_setStyle_52 ?_
      have hmdZ : (kMd ((kset w_o 19 (bd 25) (ob 9 [.ref (bd 0), .ref (bd 1), .ref (bd 2), .ref (bd 3), .ref (bd 4), .ref (bd 5), .ref (bd 6), .int (iI ((nr : Nat) : Int)), .ref (bd 8), .ref (bd 9), .ref (bd 10), .ref (bd 11), .int (iI ((T_o : Nat) : Int)), .long (lI fnd), .int (iI rel), .ref (bd 15), .int (iI sz), .ref (bd 17), .ref (bd 18), .int (iI tm), .ref (bd 20), .ref (bd 21), .int (iI sm), .int (iI dp), .int (iI 1)]))) bd nr g_o T_o cs ams ltA acA mnA rel fnd sz rx N_o tm tr sh sg sm dp 1) := ⟨kset_eq, ((kset_ne (by decide)).trans hmd.2.1), ((kset_ne (by decide)).trans hmd.2.2.1), ((kset_ne (by decide)).trans hmd.2.2.2.1), ((kset_ne (by decide)).trans hmd.2.2.2.2.1), ((kset_ne (by decide)).trans hmd.2.2.2.2.2.1), ((kset_ne (by decide)).trans hmd.2.2.2.2.2.2.1), ((kset_ne (by decide)).trans hmd.2.2.2.2.2.2.2.1), ((kset_ne (by decide)).trans hmd.2.2.2.2.2.2.2.2.1), ((kset_ne (by decide)).trans hmd.2.2.2.2.2.2.2.2.2.1), ((kset_ne (by decide)).trans hmd.2.2.2.2.2.2.2.2.2.2.1), ((kset_ne (by decide)).trans hmd.2.2.2.2.2.2.2.2.2.2.2.1), ((kset_ne (by decide)).trans hmd.2.2.2.2.2.2.2.2.2.2.2.2.1), ((kset_ne (by decide)).trans hmd.2.2.2.2.2.2.2.2.2.2.2.2.2.1), ((kset_ne (by decide)).trans hmd.2.2.2.2.2.2.2.2.2.2.2.2.2.2.1), ((kset_ne (by decide)).trans hmd.2.2.2.2.2.2.2.2.2.2.2.2.2.2.2.1), ((kset_ne (by decide)).trans hmd.2.2.2.2.2.2.2.2.2.2.2.2.2.2.2.2)⟩
      exact k_iret h_o hr rfl (⟨_, rfl, Or.inr (Or.inl ⟨h6_o, ⟨⟨_, _, _, _, _, _, _, _, _, _, _, _, hmdZ, hI, hrx, hN_o⟩, (fun x_o hx => ((kset_ne (by omega)).trans rfl))⟩⟩)⟩) (by omega) (by omega) dX7_setStyle_53

set_option maxHeartbeats 4000000 in
set_option maxRecDepth 100000 in
theorem c_X7_dropRule {E_o : kE} {l_o : Launch} (hl0 : l_o.stackTraces = false) {w_o : kW} {bd : Nat → Nat} {nr : Nat} {g_o : Nat → Nat → Int} {T_o : Nat} {lts : Nat → Nat → Int} {cs : Nat → Int} {acs : Nat → Nat → Int} {ams : Nat → Int} {rel fnd th : Int} {x_o : Int} (hst : kMu w_o bd nr g_o T_o lts cs acs ams rel fnd th) (hx : -2147483648 ≤ x_o ∧ x_o < 2147483648) : kM E_o l_o yX7_dropRule (.code yX7_dropRule cX7_dropRule 2 (some .int) :: kAL) { frames := 3, cells := 0, slots := 0, locals := 73 } 0 0 [.ref (bd 25), .int (iI x_o)] w_o (pI (fun z_o w2_o => (m_live g_o nr x_o ∧ m_tc (fun t_o => t_o < T_o ∧ m_has (lts t_o) (cs t_o) (m_up g_o 8 x_o.toNat 1) x_o.toNat) 6 = z_o ∧ kMv w_o w2_o bd nr (m_up g_o 8 x_o.toNat 1) T_o lts cs acs ams rel (fnd + m_tf (fun t_o => t_o < T_o ∧ m_has (lts t_o) (cs t_o) (m_up g_o 8 x_o.toNat 1) x_o.toNat) (fun t_o => cs t_o * (cs t_o + 1) / 2) 6) 0) ∨ (¬ (m_live g_o nr x_o) ∧ kMv w_o w2_o bd nr g_o T_o lts cs acs ams rel fnd 1))) := by
  refine kM_of hl0 (by decide +kernel) (Nat.le_of_ble_eq_true rfl) ?_
  intro X_o hXl h_o hr hin
  subst hXl
  obtain ⟨ltA, acA, mnA, sz, rx, N_o, tm, tr, sh, sg, sm, dp, hmd, hI, hrx, hN_o⟩ := hst
  obtain ⟨hwf, hnr, hT6, hmn, hg0, htx⟩ := id hI
  show kG E_o X_o 2 0 0 w_o 0 [(0, .ref (bd 25)), (1, .int (iI x_o))] []
  refine k_aload_n h_o 0 dX7_dropRule_0 rfl rfl ?_
  refine k_aload_n h_o 0 dX7_dropRule_1 rfl rfl ?_
  refine k_iload_n h_o 1 dX7_dropRule_2 rfl rfl ?_
  refine k_callV (As := [.int (iI x_o)]) (rest := [.ref (bd 25)]) h_o mX7_isRule kq_4_234 (c_X7_isRule hl0 hmd hwf hnr (by omega)) 19 hmd.1 rfl rfl rfl (Nat.le_of_ble_eq_true rfl) ⟨rfl, rfl, ⟨(Nat.le_of_ble_eq_true rfl), (Nat.le_of_ble_eq_true rfl)⟩, ⟨(Nat.le_of_ble_eq_true rfl), (Nat.le_of_ble_eq_true rfl)⟩⟩ dX7_dropRule_3 (kcI fun z3_o w3_o hp => ?_)
  obtain ⟨rfl, rfl⟩ := hp
  refine k_ifBeq h_o 13 dX7_dropRule_6 (by decide) (fun h6_o => ?_) (fun h6_o => ?_)
  · refine k_iconst h_o dX7_dropRule_13 ?_
    refine k_put (fs' := [.ref (bd 0), .ref (bd 1), .ref (bd 2), .ref (bd 3), .ref (bd 4), .ref (bd 5), .ref (bd 6), .int (iI ((nr : Nat) : Int)), .ref (bd 8), .ref (bd 9), .ref (bd 10), .ref (bd 11), .int (iI ((T_o : Nat) : Int)), .long (lI fnd), .int (iI rel), .ref (bd 15), .int (iI sz), .ref (bd 17), .ref (bd 18), .int (iI tm), .ref (bd 20), .ref (bd 21), .int (iI sm), .int (iI dp), .int (iI 1)]) h_o 19 kf_X7_60 kt_X7_24 hmd.1 rfl rfl (Nat.le_of_ble_eq_true rfl) rfl dX7_dropRule_14 ?_
    refine k_aload_n h_o 0 dX7_dropRule_17 rfl rfl ?_
    refine k_get h_o 19 kf_X7_60 kset_eq rfl dX7_dropRule_18 ?_
    refine k_ifle h_o 26 (by decide) dX7_dropRule_21 (by decide) (fun h21_o => ?_) (fun h21_o => ?_)
    · exfalso; omega
    · refine k_iconst h_o dX7_dropRule_24 ?_
      have hmdZ : (kMd ((kset w_o 19 (bd 25) (ob 9 [.ref (bd 0), .ref (bd 1), .ref (bd 2), .ref (bd 3), .ref (bd 4), .ref (bd 5), .ref (bd 6), .int (iI ((nr : Nat) : Int)), .ref (bd 8), .ref (bd 9), .ref (bd 10), .ref (bd 11), .int (iI ((T_o : Nat) : Int)), .long (lI fnd), .int (iI rel), .ref (bd 15), .int (iI sz), .ref (bd 17), .ref (bd 18), .int (iI tm), .ref (bd 20), .ref (bd 21), .int (iI sm), .int (iI dp), .int (iI 1)]))) bd nr g_o T_o cs ams ltA acA mnA rel fnd sz rx N_o tm tr sh sg sm dp 1) := ⟨kset_eq, ((kset_ne (by decide)).trans hmd.2.1), ((kset_ne (by decide)).trans hmd.2.2.1), ((kset_ne (by decide)).trans hmd.2.2.2.1), ((kset_ne (by decide)).trans hmd.2.2.2.2.1), ((kset_ne (by decide)).trans hmd.2.2.2.2.2.1), ((kset_ne (by decide)).trans hmd.2.2.2.2.2.2.1), ((kset_ne (by decide)).trans hmd.2.2.2.2.2.2.2.1), ((kset_ne (by decide)).trans hmd.2.2.2.2.2.2.2.2.1), ((kset_ne (by decide)).trans hmd.2.2.2.2.2.2.2.2.2.1), ((kset_ne (by decide)).trans hmd.2.2.2.2.2.2.2.2.2.2.1), ((kset_ne (by decide)).trans hmd.2.2.2.2.2.2.2.2.2.2.2.1), ((kset_ne (by decide)).trans hmd.2.2.2.2.2.2.2.2.2.2.2.2.1), ((kset_ne (by decide)).trans hmd.2.2.2.2.2.2.2.2.2.2.2.2.2.1), ((kset_ne (by decide)).trans hmd.2.2.2.2.2.2.2.2.2.2.2.2.2.2.1), ((kset_ne (by decide)).trans hmd.2.2.2.2.2.2.2.2.2.2.2.2.2.2.2.1), ((kset_ne (by decide)).trans hmd.2.2.2.2.2.2.2.2.2.2.2.2.2.2.2.2)⟩
      exact k_iret h_o hr rfl (⟨_, rfl, Or.inr ⟨h6_o, ⟨⟨_, _, _, _, _, _, _, _, _, _, _, _, hmdZ, hI, hrx, hN_o⟩, (fun x_o hx => ((kset_ne (by omega)).trans rfl))⟩⟩⟩) (by omega) (by omega) dX7_dropRule_25
  · refine k_iconst h_o dX7_dropRule_9 ?_
    refine k_goto h_o 14 dX7_dropRule_10 (by decide) ?_
    refine k_put (fs' := [.ref (bd 0), .ref (bd 1), .ref (bd 2), .ref (bd 3), .ref (bd 4), .ref (bd 5), .ref (bd 6), .int (iI ((nr : Nat) : Int)), .ref (bd 8), .ref (bd 9), .ref (bd 10), .ref (bd 11), .int (iI ((T_o : Nat) : Int)), .long (lI fnd), .int (iI rel), .ref (bd 15), .int (iI sz), .ref (bd 17), .ref (bd 18), .int (iI tm), .ref (bd 20), .ref (bd 21), .int (iI sm), .int (iI dp), .int (iI 0)]) h_o 19 kf_X7_60 kt_X7_24 hmd.1 rfl rfl (Nat.le_of_ble_eq_true rfl) rfl dX7_dropRule_14 ?_
    refine k_aload_n h_o 0 dX7_dropRule_17 rfl rfl ?_
    refine k_get h_o 19 kf_X7_60 kset_eq rfl dX7_dropRule_18 ?_
    refine k_ifle h_o 26 (by decide) dX7_dropRule_21 (by decide) (fun h21_o => ?_) (fun h21_o => ?_)
    · have hmdB : (kMd ((kset w_o 19 (bd 25) (ob 9 [.ref (bd 0), .ref (bd 1), .ref (bd 2), .ref (bd 3), .ref (bd 4), .ref (bd 5), .ref (bd 6), .int (iI ((nr : Nat) : Int)), .ref (bd 8), .ref (bd 9), .ref (bd 10), .ref (bd 11), .int (iI ((T_o : Nat) : Int)), .long (lI fnd), .int (iI rel), .ref (bd 15), .int (iI sz), .ref (bd 17), .ref (bd 18), .int (iI tm), .ref (bd 20), .ref (bd 21), .int (iI sm), .int (iI dp), .int (iI 0)]))) bd nr g_o T_o cs ams ltA acA mnA rel fnd sz rx N_o tm tr sh sg sm dp 0) := ⟨kset_eq, ((kset_ne (by decide)).trans hmd.2.1), ((kset_ne (by decide)).trans hmd.2.2.1), ((kset_ne (by decide)).trans hmd.2.2.2.1), ((kset_ne (by decide)).trans hmd.2.2.2.2.1), ((kset_ne (by decide)).trans hmd.2.2.2.2.2.1), ((kset_ne (by decide)).trans hmd.2.2.2.2.2.2.1), ((kset_ne (by decide)).trans hmd.2.2.2.2.2.2.2.1), ((kset_ne (by decide)).trans hmd.2.2.2.2.2.2.2.2.1), ((kset_ne (by decide)).trans hmd.2.2.2.2.2.2.2.2.2.1), ((kset_ne (by decide)).trans hmd.2.2.2.2.2.2.2.2.2.2.1), ((kset_ne (by decide)).trans hmd.2.2.2.2.2.2.2.2.2.2.2.1), ((kset_ne (by decide)).trans hmd.2.2.2.2.2.2.2.2.2.2.2.2.1), ((kset_ne (by decide)).trans hmd.2.2.2.2.2.2.2.2.2.2.2.2.2.1), ((kset_ne (by decide)).trans hmd.2.2.2.2.2.2.2.2.2.2.2.2.2.2.1), ((kset_ne (by decide)).trans hmd.2.2.2.2.2.2.2.2.2.2.2.2.2.2.2.1), ((kset_ne (by decide)).trans hmd.2.2.2.2.2.2.2.2.2.2.2.2.2.2.2.2)⟩
      obtain ⟨hl1, hl2, hl3⟩ := id h6_o
      refine k_aload_n h_o 0 dX7_dropRule_26 rfl rfl ?_
      refine k_get h_o 19 kf_X7_28 hmdB.1 rfl dX7_dropRule_27 ?_
      refine k_iload_n h_o 1 dX7_dropRule_30 rfl rfl ?_
      refine k_iconst h_o dX7_dropRule_31 ?_
      refine k_zast h_o 26 hmdB.2.2.2.2.2.2.2.1 (by omega) (by decide) (by decide) dX7_dropRule_32 ?_
      have hmdU := hmdB.u8 (r := x_o.toNat) (v := 1)
      have hI8 := hI.up (f := 8) (r := x_o.toNat) (v := 1) (by omega) (by omega)
      refine k_aload_n h_o 0 dX7_dropRule_33 rfl rfl ?_
      refine k_iload_n h_o 1 dX7_dropRule_34 rfl rfl ?_
      refine k_callV (As := [.int (iI x_o)]) (rest := []) h_o mX7_touched kq_4_226 (c_X7_touched hl0 hmdU hI8 (by omega)) 19 hmdU.1 rfl rfl rfl (Nat.le_of_ble_eq_true rfl) ⟨rfl, rfl, ⟨(Nat.le_of_ble_eq_true rfl), (Nat.le_of_ble_eq_true rfl)⟩, ⟨(Nat.le_of_ble_eq_true rfl), (Nat.le_of_ble_eq_true rfl)⟩⟩ dX7_dropRule_35 (kcI fun z35_o wq35 hp => ?_)
      obtain ⟨rfl, hmdq35, hexq35⟩ := hp
      have hmdZ : (kMd wq35 bd nr ((m_up g_o 8 x_o.toNat 1)) T_o cs ams ltA acA mnA rel ((fnd + m_tf (fun t_o => m_has (lts t_o) (cs t_o) (m_up g_o 8 x_o.toNat 1) x_o.toNat) (fun t_o => cs t_o * (cs t_o + 1) / 2) T_o)) sz rx N_o tm tr sh sg sm dp 0) := ⟨hmdq35.1, hmdq35.2.1, hmdq35.2.2.1, hmdq35.2.2.2.1, hmdq35.2.2.2.2.1, hmdq35.2.2.2.2.2.1, hmdq35.2.2.2.2.2.2.1, hmdq35.2.2.2.2.2.2.2.1, hmdq35.2.2.2.2.2.2.2.2.1, hmdq35.2.2.2.2.2.2.2.2.2.1, hmdq35.2.2.2.2.2.2.2.2.2.2.1, hmdq35.2.2.2.2.2.2.2.2.2.2.2.1, hmdq35.2.2.2.2.2.2.2.2.2.2.2.2.1, hmdq35.2.2.2.2.2.2.2.2.2.2.2.2.2.1, hmdq35.2.2.2.2.2.2.2.2.2.2.2.2.2.2.1, hmdq35.2.2.2.2.2.2.2.2.2.2.2.2.2.2.2.1, hmdq35.2.2.2.2.2.2.2.2.2.2.2.2.2.2.2.2⟩
      rw [← m_tf_T (P := (fun t_o => m_has (lts t_o) (cs t_o) (m_up g_o 8 x_o.toNat 1) x_o.toNat)) (f := (fun t_o => cs t_o * (cs t_o + 1) / 2)) 6 hT6] at hmdZ
      exact k_iret h_o hr rfl (⟨_, rfl, Or.inl ⟨h6_o, (m_tc_T (P := (fun t_o => m_has (lts t_o) (cs t_o) (m_up g_o 8 x_o.toNat 1) x_o.toNat)) 6 hT6), ⟨⟨_, _, _, _, _, _, _, _, _, _, _, _, hmdZ, hI8, hrx, hN_o⟩, (fun x_o hx => ((hexq35 x_o hx).trans ((kset_ne (by omega)).trans ((kset_ne (by omega)).trans rfl))))⟩⟩⟩) (by omega) (by omega) dX7_dropRule_38
    · exfalso; omega

set_option maxHeartbeats 4000000 in
set_option maxRecDepth 100000 in
theorem c_X7_addRule {E_o : kE} {l_o : Launch} (hl0 : l_o.stackTraces = false) {w_o : kW} {bd : Nat → Nat} {nr : Nat} {g_o : Nat → Nat → Int} {T_o : Nat} {lts : Nat → Nat → Int} {cs : Nat → Int} {acs : Nat → Nat → Int} {ams : Nat → Int} {rel fnd th : Int} {x_o y_o u_o v_o : Int} (hst : kMu w_o bd nr g_o T_o lts cs acs ams rel fnd th) (hx : -2147483648 ≤ x_o ∧ x_o < 2147483648) (hy : -2147483648 ≤ y_o ∧ y_o < 2147483648) (hu : -2147483648 ≤ u_o ∧ u_o < 2147483648) (hv : -2147483648 ≤ v_o ∧ v_o < 2147483648) : kM E_o l_o yX7_addRule (.code yX7_addRule cX7_addRule 6 (some .int) :: kAL) { frames := 3, cells := 0, slots := 0, locals := 73 } 0 0 [.ref (bd 25), .int (iI x_o), .int (iI y_o), .int (iI u_o), .int (iI v_o)] w_o (pI (fun z_o w2_o => ((m_rf x_o y_o u_o v_o ∧ nr < 12) ∧ ((nr : Nat) : Int) = z_o ∧ kMv w_o w2_o bd (nr + 1) (m_ad g_o nr x_o y_o u_o v_o) T_o lts cs acs ams rel (fnd + m_tf (fun t_o => t_o < T_o ∧ m_has (lts t_o) (cs t_o) (m_ad g_o nr x_o y_o u_o v_o) nr) (fun t_o => cs t_o * (cs t_o + 1) / 2) 6) 0) ∨ ((¬ m_rf x_o y_o u_o v_o) ∧ kMv w_o w2_o bd nr g_o T_o lts cs acs ams rel fnd 1) ∨ ((m_rf x_o y_o u_o v_o ∧ nr = 12) ∧ kMv w_o w2_o bd nr g_o T_o lts cs acs ams rel fnd 2))) := by
  refine kM_of hl0 (by decide +kernel) (Nat.le_of_ble_eq_true rfl) ?_
  intro X_o hXl h_o hr hin
  subst hXl
  obtain ⟨ltA, acA, mnA, sz, rx, N_o, tm, tr, sh, sg, sm, dp, hmd, hI, hrx, hN_o⟩ := hst
  obtain ⟨hwf, hnr, hT6, hmn, hg0, htx⟩ := id hI
  show kG E_o X_o 6 0 0 w_o 0 [(0, .ref (bd 25)), (1, .int (iI x_o)), (2, .int (iI y_o)), (3, .int (iI u_o)), (4, .int (iI v_o))] []
  have J45 : ∀ (e1 : Int), (e1 = 1 ∧ (m_isN x_o ∧ m_isS y_o ∧ (u_o = -1 ∨ m_isS u_o) ∧ (v_o = -1 ∨ m_isS v_o))) ∨ (e1 = 0 ∧ ¬ (m_isN x_o ∧ m_isS y_o ∧ (u_o = -1 ∨ m_isS u_o) ∧ (v_o = -1 ∨ m_isS v_o))) → kG E_o X_o 6 0 0 w_o 45 [(0, .ref (bd 25)), (1, .int (iI x_o)), (2, .int (iI y_o)), (3, .int (iI u_o)), (4, .int (iI v_o))] [.int (iI e1)] := by
    intro e1 he1
    refine k_istore (lv' := [(5, .int (iI e1)), (0, .ref (bd 25)), (1, .int (iI x_o)), (2, .int (iI y_o)), (3, .int (iI u_o)), (4, .int (iI v_o))]) h_o dX7_addRule_45 (by decide) rfl ?_
    have J85 : ∀ (e2 : Int), (e2 = 1 ∧ m_rf x_o y_o u_o v_o) ∨ (e2 = 0 ∧ ¬ m_rf x_o y_o u_o v_o) → kG E_o X_o 6 0 0 w_o 85 [(0, .ref (bd 25)), (1, .int (iI x_o)), (2, .int (iI y_o)), (3, .int (iI u_o)), (4, .int (iI v_o)), (5, .int (iI e1))] [.int (iI e2)] := by
      intro e2 he2
      refine k_istore (lv' := [(5, .int (iI e2)), (0, .ref (bd 25)), (1, .int (iI x_o)), (2, .int (iI y_o)), (3, .int (iI u_o)), (4, .int (iI v_o))]) h_o dX7_addRule_85 (by decide) rfl ?_
      refine k_aload_n h_o 1 dX7_addRule_87 rfl rfl ?_
      refine k_iload h_o 0 dX7_addRule_88 rfl ?_
      refine k_ifne h_o 97 (by omega) dX7_addRule_90 (by decide) (fun h90_o => ?_) (fun h90_o => ?_)
      · refine k_aload_n h_o 1 dX7_addRule_97 rfl rfl ?_
        refine k_get h_o 19 kf_X7_96 hmd.1 rfl dX7_addRule_98 ?_
        refine k_bipush h_o dX7_addRule_101 (by decide) ?_
        refine k_icmp_ne h_o 110 (by omega) (by decide) dX7_addRule_103 (by decide) (fun h103_o => ?_) (fun h103_o => ?_)
        · refine k_iconst h_o dX7_addRule_110 ?_
          refine k_put (fs' := [.ref (bd 0), .ref (bd 1), .ref (bd 2), .ref (bd 3), .ref (bd 4), .ref (bd 5), .ref (bd 6), .int (iI ((nr : Nat) : Int)), .ref (bd 8), .ref (bd 9), .ref (bd 10), .ref (bd 11), .int (iI ((T_o : Nat) : Int)), .long (lI fnd), .int (iI rel), .ref (bd 15), .int (iI sz), .ref (bd 17), .ref (bd 18), .int (iI tm), .ref (bd 20), .ref (bd 21), .int (iI sm), .int (iI dp), .int (iI 0)]) h_o 19 kf_X7_60 kt_X7_24 hmd.1 rfl rfl (Nat.le_of_ble_eq_true rfl) rfl dX7_addRule_111 ?_
          refine k_aload_n h_o 1 dX7_addRule_114 rfl rfl ?_
          refine k_get h_o 19 kf_X7_60 kset_eq rfl dX7_addRule_115 ?_
          refine k_ifle h_o 123 (by decide) dX7_addRule_118 (by decide) (fun h118_o => ?_) (fun h118_o => ?_)
          · have hmdB : (kMd ((kset w_o 19 (bd 25) (ob 9 [.ref (bd 0), .ref (bd 1), .ref (bd 2), .ref (bd 3), .ref (bd 4), .ref (bd 5), .ref (bd 6), .int (iI ((nr : Nat) : Int)), .ref (bd 8), .ref (bd 9), .ref (bd 10), .ref (bd 11), .int (iI ((T_o : Nat) : Int)), .long (lI fnd), .int (iI rel), .ref (bd 15), .int (iI sz), .ref (bd 17), .ref (bd 18), .int (iI tm), .ref (bd 20), .ref (bd 21), .int (iI sm), .int (iI dp), .int (iI 0)]))) bd nr g_o T_o cs ams ltA acA mnA rel fnd sz rx N_o tm tr sh sg sm dp 0) := ⟨kset_eq, ((kset_ne (by decide)).trans hmd.2.1), ((kset_ne (by decide)).trans hmd.2.2.1), ((kset_ne (by decide)).trans hmd.2.2.2.1), ((kset_ne (by decide)).trans hmd.2.2.2.2.1), ((kset_ne (by decide)).trans hmd.2.2.2.2.2.1), ((kset_ne (by decide)).trans hmd.2.2.2.2.2.2.1), ((kset_ne (by decide)).trans hmd.2.2.2.2.2.2.2.1), ((kset_ne (by decide)).trans hmd.2.2.2.2.2.2.2.2.1), ((kset_ne (by decide)).trans hmd.2.2.2.2.2.2.2.2.2.1), ((kset_ne (by decide)).trans hmd.2.2.2.2.2.2.2.2.2.2.1), ((kset_ne (by decide)).trans hmd.2.2.2.2.2.2.2.2.2.2.2.1), ((kset_ne (by decide)).trans hmd.2.2.2.2.2.2.2.2.2.2.2.2.1), ((kset_ne (by decide)).trans hmd.2.2.2.2.2.2.2.2.2.2.2.2.2.1), ((kset_ne (by decide)).trans hmd.2.2.2.2.2.2.2.2.2.2.2.2.2.2.1), ((kset_ne (by decide)).trans hmd.2.2.2.2.2.2.2.2.2.2.2.2.2.2.2.1), ((kset_ne (by decide)).trans hmd.2.2.2.2.2.2.2.2.2.2.2.2.2.2.2.2)⟩
            have hrf : m_rf x_o y_o u_o v_o := by omega
            have hn12 : nr < 12 := by omega
            refine k_aload_n h_o 1 dX7_addRule_123 rfl rfl ?_
            refine k_get h_o 19 kf_X7_7 hmdB.1 rfl dX7_addRule_124 ?_
            refine k_aload_n h_o 1 dX7_addRule_127 rfl rfl ?_
            refine k_get h_o 19 kf_X7_96 hmdB.1 rfl dX7_addRule_128 ?_
            refine k_iload_n h_o 2 dX7_addRule_131 rfl rfl ?_
            refine k_iast h_o 20 hmdB.2.1 (by omega) (by decide) dX7_addRule_132 ?_
            refine k_aload_n h_o 1 dX7_addRule_133 rfl rfl ?_
            refine k_get h_o 19 kf_X7_13 ((kset_ne (by decide)).trans hmdB.1) rfl dX7_addRule_134 ?_
            refine k_iconst h_o dX7_addRule_137 ?_
            refine k_aload_n h_o 1 dX7_addRule_138 rfl rfl ?_
            refine k_get h_o 19 kf_X7_96 ((kset_ne (by decide)).trans hmdB.1) rfl dX7_addRule_139 ?_
            refine k_imul h_o dX7_addRule_142 ?_
            refine k_iload_n h_o 3 dX7_addRule_143 rfl rfl ?_
            refine k_iast h_o 21 ((kset_ne (by decide)).trans hmdB.2.2.1) (by omega) (by decide) dX7_addRule_144 ?_
            refine k_aload_n h_o 1 dX7_addRule_145 rfl rfl ?_
            refine k_get h_o 19 kf_X7_13 ((kset_ne (by decide)).trans ((kset_ne (by decide)).trans hmdB.1)) rfl dX7_addRule_146 ?_
            refine k_iconst h_o dX7_addRule_149 ?_
            refine k_aload_n h_o 1 dX7_addRule_150 rfl rfl ?_
            refine k_get h_o 19 kf_X7_96 ((kset_ne (by decide)).trans ((kset_ne (by decide)).trans hmdB.1)) rfl dX7_addRule_151 ?_
            refine k_imul h_o dX7_addRule_154 ?_
            refine k_iconst h_o dX7_addRule_155 ?_
            refine k_iadd h_o dX7_addRule_156 ?_
            refine k_iload_n h_o 4 dX7_addRule_157 rfl rfl ?_
            refine k_iast h_o 21 kset_eq (by omega) (by decide) dX7_addRule_158 ?_
            refine k_aload_n h_o 1 dX7_addRule_159 rfl rfl ?_
            refine k_get h_o 19 kf_X7_13 ((kset_ne (by decide)).trans ((kset_ne (by decide)).trans ((kset_ne (by decide)).trans hmdB.1))) rfl dX7_addRule_160 ?_
            refine k_iconst h_o dX7_addRule_163 ?_
            refine k_aload_n h_o 1 dX7_addRule_164 rfl rfl ?_
            refine k_get h_o 19 kf_X7_96 ((kset_ne (by decide)).trans ((kset_ne (by decide)).trans ((kset_ne (by decide)).trans hmdB.1))) rfl dX7_addRule_165 ?_
            refine k_imul h_o dX7_addRule_168 ?_
            refine k_iconst h_o dX7_addRule_169 ?_
            refine k_iadd h_o dX7_addRule_170 ?_
            refine k_iload h_o 5 dX7_addRule_171 rfl ?_
            refine k_iast h_o 21 kset_eq (by omega) (by decide) dX7_addRule_173 ?_
            refine k_aload_n h_o 1 dX7_addRule_174 rfl rfl ?_
            refine k_get h_o 19 kf_X7_16 ((kset_ne (by decide)).trans ((kset_ne (by decide)).trans ((kset_ne (by decide)).trans ((kset_ne (by decide)).trans hmdB.1)))) rfl dX7_addRule_175 ?_
            refine k_aload_n h_o 1 dX7_addRule_178 rfl rfl ?_
            refine k_get h_o 19 kf_X7_96 ((kset_ne (by decide)).trans ((kset_ne (by decide)).trans ((kset_ne (by decide)).trans ((kset_ne (by decide)).trans hmdB.1)))) rfl dX7_addRule_179 ?_
            have J202 : ∀ (e3 : Int), (e3 = (if u_o = -1 then 1 else if v_o = -1 then 2 else 3)) → kG E_o X_o 6 0 0 (kset (kset (kset (kset (kset w_o 19 (bd 25) (ob 9 [.ref (bd 0), .ref (bd 1), .ref (bd 2), .ref (bd 3), .ref (bd 4), .ref (bd 5), .ref (bd 6), .int (iI ((nr : Nat) : Int)), .ref (bd 8), .ref (bd 9), .ref (bd 10), .ref (bd 11), .int (iI ((T_o : Nat) : Int)), .long (lI fnd), .int (iI rel), .ref (bd 15), .int (iI sz), .ref (bd 17), .ref (bd 18), .int (iI tm), .ref (bd 20), .ref (bd 21), .int (iI sm), .int (iI dp), .int (iI 0)])) 20 (bd 0) (ai 12 (kup (g_o 1) (((nr : Nat) : Int).toNat) x_o))) 21 (bd 1) (ai 36 (kup (m_rt g_o) ((3 * ((nr : Nat) : Int)).toNat) y_o))) 21 (bd 1) (ai 36 (kup (kup (m_rt g_o) ((3 * ((nr : Nat) : Int)).toNat) y_o) (((3 * ((nr : Nat) : Int)) + 1).toNat) u_o))) 21 (bd 1) (ai 36 (kup (kup (kup (m_rt g_o) ((3 * ((nr : Nat) : Int)).toNat) y_o) (((3 * ((nr : Nat) : Int)) + 1).toNat) u_o) (((3 * ((nr : Nat) : Int)) + 2).toNat) v_o))) 202 [(0, .ref (bd 25)), (1, .int (iI x_o)), (2, .int (iI y_o)), (3, .int (iI u_o)), (4, .int (iI v_o)), (5, .int (iI e2))] [.int (iI e3), .int (iI ((nr : Nat) : Int)), .ref (bd 2)] := by
              intro e3 he3
              refine k_iast h_o 22 ((kset_ne (by decide)).trans ((kset_ne (by decide)).trans ((kset_ne (by decide)).trans ((kset_ne (by decide)).trans hmdB.2.2.2.1)))) (by omega) (by decide) dX7_addRule_202 ?_
              refine k_aload_n h_o 0 dX7_addRule_203 rfl rfl ?_
              refine k_dup h_o dX7_addRule_204 rfl ?_
              refine k_get h_o 19 kf_X7_96 ((kset_ne (by decide)).trans ((kset_ne (by decide)).trans ((kset_ne (by decide)).trans ((kset_ne (by decide)).trans ((kset_ne (by decide)).trans hmdB.1))))) rfl dX7_addRule_205 ?_
              refine k_iconst h_o dX7_addRule_208 ?_
              refine k_iadd h_o dX7_addRule_209 ?_
              refine k_top (z' := ((nr + 1 : Nat) : Int)) (by omega) ?_
              refine k_put (fs' := [.ref (bd 0), .ref (bd 1), .ref (bd 2), .ref (bd 3), .ref (bd 4), .ref (bd 5), .ref (bd 6), .int (iI ((nr + 1 : Nat) : Int)), .ref (bd 8), .ref (bd 9), .ref (bd 10), .ref (bd 11), .int (iI ((T_o : Nat) : Int)), .long (lI fnd), .int (iI rel), .ref (bd 15), .int (iI sz), .ref (bd 17), .ref (bd 18), .int (iI tm), .ref (bd 20), .ref (bd 21), .int (iI sm), .int (iI dp), .int (iI 0)]) h_o 19 kf_X7_96 kt_X7_7 ((kset_ne (by decide)).trans ((kset_ne (by decide)).trans ((kset_ne (by decide)).trans ((kset_ne (by decide)).trans ((kset_ne (by decide)).trans hmdB.1))))) rfl rfl (Nat.le_of_ble_eq_true rfl) rfl dX7_addRule_210 ?_
              have hmdU : kMd ((kset (kset (kset (kset (kset (kset (kset w_o 19 (bd 25) (ob 9 [.ref (bd 0), .ref (bd 1), .ref (bd 2), .ref (bd 3), .ref (bd 4), .ref (bd 5), .ref (bd 6), .int (iI ((nr : Nat) : Int)), .ref (bd 8), .ref (bd 9), .ref (bd 10), .ref (bd 11), .int (iI ((T_o : Nat) : Int)), .long (lI fnd), .int (iI rel), .ref (bd 15), .int (iI sz), .ref (bd 17), .ref (bd 18), .int (iI tm), .ref (bd 20), .ref (bd 21), .int (iI sm), .int (iI dp), .int (iI 0)])) 20 (bd 0) (ai 12 (kup (g_o 1) (((nr : Nat) : Int).toNat) x_o))) 21 (bd 1) (ai 36 (kup (m_rt g_o) ((3 * ((nr : Nat) : Int)).toNat) y_o))) 21 (bd 1) (ai 36 (kup (kup (m_rt g_o) ((3 * ((nr : Nat) : Int)).toNat) y_o) (((3 * ((nr : Nat) : Int)) + 1).toNat) u_o))) 21 (bd 1) (ai 36 (kup (kup (kup (m_rt g_o) ((3 * ((nr : Nat) : Int)).toNat) y_o) (((3 * ((nr : Nat) : Int)) + 1).toNat) u_o) (((3 * ((nr : Nat) : Int)) + 2).toNat) v_o))) 22 (bd 2) (ai 12 (kup mnA (((nr : Nat) : Int).toNat) e3))) 19 (bd 25) (ob 9 [.ref (bd 0), .ref (bd 1), .ref (bd 2), .ref (bd 3), .ref (bd 4), .ref (bd 5), .ref (bd 6), .int (iI ((nr + 1 : Nat) : Int)), .ref (bd 8), .ref (bd 9), .ref (bd 10), .ref (bd 11), .int (iI ((T_o : Nat) : Int)), .long (lI fnd), .int (iI rel), .ref (bd 15), .int (iI sz), .ref (bd 17), .ref (bd 18), .int (iI tm), .ref (bd 20), .ref (bd 21), .int (iI sm), .int (iI dp), .int (iI 0)]))) bd (nr + 1) ((m_ad g_o nr x_o y_o u_o v_o)) T_o cs ams ltA acA (kup mnA nr e3) rel fnd sz rx N_o tm tr sh sg sm dp 0 := kMd.ad (fun k_o q1 q2 => hg0 nr k_o (Nat.le_refl _) q1 q2) kset_eq ((kset_ne (by decide)).trans ((kset_ne (by decide)).trans ((kset_ne (by decide)).trans ((kset_ne (by decide)).trans ((kset_ne (by decide)).trans kset_eq))))) ((kset_ne (by decide)).trans ((kset_ne (by decide)).trans kset_eq)) ((kset_ne (by decide)).trans kset_eq) ((kset_ne (by decide)).trans ((kset_ne (by decide)).trans ((kset_ne (by decide)).trans ((kset_ne (by decide)).trans ((kset_ne (by decide)).trans ((kset_ne (by decide)).trans hmdB.2.2.2.2.1)))))) ((kset_ne (by decide)).trans ((kset_ne (by decide)).trans ((kset_ne (by decide)).trans ((kset_ne (by decide)).trans ((kset_ne (by decide)).trans ((kset_ne (by decide)).trans hmdB.2.2.2.2.2.1)))))) ((kset_ne (by decide)).trans ((kset_ne (by decide)).trans ((kset_ne (by decide)).trans ((kset_ne (by decide)).trans ((kset_ne (by decide)).trans ((kset_ne (by decide)).trans hmdB.2.2.2.2.2.2.1)))))) ((kset_ne (by decide)).trans ((kset_ne (by decide)).trans ((kset_ne (by decide)).trans ((kset_ne (by decide)).trans ((kset_ne (by decide)).trans ((kset_ne (by decide)).trans hmdB.2.2.2.2.2.2.2.1)))))) ((kset_ne (by decide)).trans ((kset_ne (by decide)).trans ((kset_ne (by decide)).trans ((kset_ne (by decide)).trans ((kset_ne (by decide)).trans ((kset_ne (by decide)).trans hmdB.2.2.2.2.2.2.2.2.1)))))) ((kset_ne (by decide)).trans ((kset_ne (by decide)).trans ((kset_ne (by decide)).trans ((kset_ne (by decide)).trans ((kset_ne (by decide)).trans ((kset_ne (by decide)).trans hmdB.2.2.2.2.2.2.2.2.2.1)))))) ((kset_ne (by decide)).trans ((kset_ne (by decide)).trans ((kset_ne (by decide)).trans ((kset_ne (by decide)).trans ((kset_ne (by decide)).trans ((kset_ne (by decide)).trans hmdB.2.2.2.2.2.2.2.2.2.2.1)))))) ((kset_ne (by decide)).trans ((kset_ne (by decide)).trans ((kset_ne (by decide)).trans ((kset_ne (by decide)).trans ((kset_ne (by decide)).trans ((kset_ne (by decide)).trans hmdB.2.2.2.2.2.2.2.2.2.2.2.1)))))) ((kset_ne (by decide)).trans ((kset_ne (by decide)).trans ((kset_ne (by decide)).trans ((kset_ne (by decide)).trans ((kset_ne (by decide)).trans ((kset_ne (by decide)).trans hmdB.2.2.2.2.2.2.2.2.2.2.2.2.1)))))) ((kset_ne (by decide)).trans ((kset_ne (by decide)).trans ((kset_ne (by decide)).trans ((kset_ne (by decide)).trans ((kset_ne (by decide)).trans ((kset_ne (by decide)).trans hmdB.2.2.2.2.2.2.2.2.2.2.2.2.2.1)))))) ((kset_ne (by decide)).trans ((kset_ne (by decide)).trans ((kset_ne (by decide)).trans ((kset_ne (by decide)).trans ((kset_ne (by decide)).trans ((kset_ne (by decide)).trans hmdB.2.2.2.2.2.2.2.2.2.2.2.2.2.2.1)))))) ((kset_ne (by decide)).trans ((kset_ne (by decide)).trans ((kset_ne (by decide)).trans ((kset_ne (by decide)).trans ((kset_ne (by decide)).trans ((kset_ne (by decide)).trans hmdB.2.2.2.2.2.2.2.2.2.2.2.2.2.2.2.1)))))) ((kset_ne (by decide)).trans ((kset_ne (by decide)).trans ((kset_ne (by decide)).trans ((kset_ne (by decide)).trans ((kset_ne (by decide)).trans ((kset_ne (by decide)).trans hmdB.2.2.2.2.2.2.2.2.2.2.2.2.2.2.2.2))))))
              have hI8 := hI.ad hn12 hrf he3
              refine k_aload_n h_o 0 dX7_addRule_213 rfl rfl ?_
              refine k_aload_n h_o 0 dX7_addRule_214 rfl rfl ?_
              refine k_get h_o 19 kf_X7_96 hmdU.1 rfl dX7_addRule_215 ?_
              refine k_iconst h_o dX7_addRule_218 ?_
              refine k_isub h_o dX7_addRule_219 ?_
              refine k_top (z' := ((nr : Nat) : Int)) (by omega) ?_
              refine k_callV (As := [.int (iI ((nr : Nat) : Int))]) (rest := []) h_o mX7_touched kq_4_226 (c_X7_touched hl0 hmdU hI8 (by omega)) 19 hmdU.1 rfl rfl rfl (Nat.le_of_ble_eq_true rfl) ⟨rfl, rfl, ⟨(Nat.le_of_ble_eq_true rfl), (Nat.le_of_ble_eq_true rfl)⟩, ⟨(Nat.le_of_ble_eq_true rfl), (Nat.le_of_ble_eq_true rfl)⟩⟩ dX7_addRule_220 (kcI fun z220_o wq36 hp => ?_)
              obtain ⟨rfl, hmdq36, hexq36⟩ := hp
              refine k_pop h_o dX7_addRule_223 rfl ?_
              refine k_aload_n h_o 0 dX7_addRule_224 rfl rfl ?_
              refine k_get h_o 19 kf_X7_96 hmdq36.1 rfl dX7_addRule_225 ?_
              refine k_iconst h_o dX7_addRule_228 ?_
              refine k_isub h_o dX7_addRule_229 ?_
              have hmdZ : (kMd wq36 bd (nr + 1) ((m_ad g_o nr x_o y_o u_o v_o)) T_o cs ams ltA acA (kup mnA nr e3) rel ((fnd + m_tf (fun t_o => m_has (lts t_o) (cs t_o) (m_ad g_o nr x_o y_o u_o v_o) ((nr : Nat) : Int).toNat) (fun t_o => cs t_o * (cs t_o + 1) / 2) T_o)) sz rx N_o tm tr sh sg sm dp 0) := ⟨hmdq36.1, hmdq36.2.1, hmdq36.2.2.1, hmdq36.2.2.2.1, hmdq36.2.2.2.2.1, hmdq36.2.2.2.2.2.1, hmdq36.2.2.2.2.2.2.1, hmdq36.2.2.2.2.2.2.2.1, hmdq36.2.2.2.2.2.2.2.2.1, hmdq36.2.2.2.2.2.2.2.2.2.1, hmdq36.2.2.2.2.2.2.2.2.2.2.1, hmdq36.2.2.2.2.2.2.2.2.2.2.2.1, hmdq36.2.2.2.2.2.2.2.2.2.2.2.2.1, hmdq36.2.2.2.2.2.2.2.2.2.2.2.2.2.1, hmdq36.2.2.2.2.2.2.2.2.2.2.2.2.2.2.1, hmdq36.2.2.2.2.2.2.2.2.2.2.2.2.2.2.2.1, hmdq36.2.2.2.2.2.2.2.2.2.2.2.2.2.2.2.2⟩
              refine k_top (z' := ((nr : Nat) : Int)) (by omega) ?_
              rw [Int.toNat_natCast, ← m_tf_T (P := (fun t_o => m_has (lts t_o) (cs t_o) (m_ad g_o nr x_o y_o u_o v_o) nr)) (f := (fun t_o => cs t_o * (cs t_o + 1) / 2)) 6 hT6] at hmdZ
              exact k_iret h_o hr rfl (⟨_, rfl, Or.inl ⟨⟨hrf, hn12⟩, rfl, ⟨⟨_, _, _, _, _, _, _, _, _, _, _, _, hmdZ, hI8, hrx, hN_o⟩, (fun x_o hx => ((hexq36 x_o hx).trans ((kset_ne (by omega)).trans ((kset_ne (by omega)).trans ((kset_ne (by omega)).trans ((kset_ne (by omega)).trans ((kset_ne (by omega)).trans ((kset_ne (by omega)).trans ((kset_ne (by omega)).trans rfl)))))))))⟩⟩⟩) (by omega) (by omega) dX7_addRule_230
            refine k_iload_n h_o 4 dX7_addRule_182 rfl rfl ?_
            refine k_iconst h_o dX7_addRule_183 ?_
            refine k_icmp_ne h_o 191 (by omega) (by decide) dX7_addRule_184 (by decide) (fun h184_o => ?_) (fun h184_o => ?_)
            · refine k_iload h_o 5 dX7_addRule_191 rfl ?_
              refine k_iconst h_o dX7_addRule_193 ?_
              refine k_icmp_ne h_o 201 (by omega) (by decide) dX7_addRule_194 (by decide) (fun h194_o => ?_) (fun h194_o => ?_)
              · refine k_iconst h_o dX7_addRule_201 ?_
                refine k_sub (lv' := [(0, .ref (bd 25)), (1, .int (iI x_o)), (2, .int (iI y_o)), (3, .int (iI u_o)), (4, .int (iI v_o)), (5, .int (iI e2))]) [1, 2, 3, 4, 5, 0] rfl ?_
                exact J202 3 (by (repeat' split) <;> omega)
              · refine k_iconst h_o dX7_addRule_197 ?_
                refine k_goto h_o 202 dX7_addRule_198 (by decide) ?_
                refine k_sub (lv' := [(0, .ref (bd 25)), (1, .int (iI x_o)), (2, .int (iI y_o)), (3, .int (iI u_o)), (4, .int (iI v_o)), (5, .int (iI e2))]) [1, 2, 3, 4, 5, 0] rfl ?_
                exact J202 2 (by (repeat' split) <;> omega)
            · refine k_iconst h_o dX7_addRule_187 ?_
              refine k_goto h_o 202 dX7_addRule_188 (by decide) ?_
              refine k_sub (lv' := [(0, .ref (bd 25)), (1, .int (iI x_o)), (2, .int (iI y_o)), (3, .int (iI u_o)), (4, .int (iI v_o)), (5, .int (iI e2))]) [1, 2, 3, 4, 5, 0] rfl ?_
              exact J202 1 (by (repeat' split) <;> omega)
          · exfalso; omega
        · refine k_iconst h_o dX7_addRule_106 ?_
          refine k_goto h_o 111 dX7_addRule_107 (by decide) ?_
          refine k_put (fs' := [.ref (bd 0), .ref (bd 1), .ref (bd 2), .ref (bd 3), .ref (bd 4), .ref (bd 5), .ref (bd 6), .int (iI ((nr : Nat) : Int)), .ref (bd 8), .ref (bd 9), .ref (bd 10), .ref (bd 11), .int (iI ((T_o : Nat) : Int)), .long (lI fnd), .int (iI rel), .ref (bd 15), .int (iI sz), .ref (bd 17), .ref (bd 18), .int (iI tm), .ref (bd 20), .ref (bd 21), .int (iI sm), .int (iI dp), .int (iI 2)]) h_o 19 kf_X7_60 kt_X7_24 hmd.1 rfl rfl (Nat.le_of_ble_eq_true rfl) rfl dX7_addRule_111 ?_
          refine k_aload_n h_o 1 dX7_addRule_114 rfl rfl ?_
          refine k_get h_o 19 kf_X7_60 kset_eq rfl dX7_addRule_115 ?_
          refine k_ifle h_o 123 (by decide) dX7_addRule_118 (by decide) (fun h118_o => ?_) (fun h118_o => ?_)
          · exfalso; omega
          · refine k_iconst h_o dX7_addRule_121 ?_
            have hmdZ : (kMd ((kset w_o 19 (bd 25) (ob 9 [.ref (bd 0), .ref (bd 1), .ref (bd 2), .ref (bd 3), .ref (bd 4), .ref (bd 5), .ref (bd 6), .int (iI ((nr : Nat) : Int)), .ref (bd 8), .ref (bd 9), .ref (bd 10), .ref (bd 11), .int (iI ((T_o : Nat) : Int)), .long (lI fnd), .int (iI rel), .ref (bd 15), .int (iI sz), .ref (bd 17), .ref (bd 18), .int (iI tm), .ref (bd 20), .ref (bd 21), .int (iI sm), .int (iI dp), .int (iI 2)]))) bd nr g_o T_o cs ams ltA acA mnA rel fnd sz rx N_o tm tr sh sg sm dp 2) := ⟨kset_eq, ((kset_ne (by decide)).trans hmd.2.1), ((kset_ne (by decide)).trans hmd.2.2.1), ((kset_ne (by decide)).trans hmd.2.2.2.1), ((kset_ne (by decide)).trans hmd.2.2.2.2.1), ((kset_ne (by decide)).trans hmd.2.2.2.2.2.1), ((kset_ne (by decide)).trans hmd.2.2.2.2.2.2.1), ((kset_ne (by decide)).trans hmd.2.2.2.2.2.2.2.1), ((kset_ne (by decide)).trans hmd.2.2.2.2.2.2.2.2.1), ((kset_ne (by decide)).trans hmd.2.2.2.2.2.2.2.2.2.1), ((kset_ne (by decide)).trans hmd.2.2.2.2.2.2.2.2.2.2.1), ((kset_ne (by decide)).trans hmd.2.2.2.2.2.2.2.2.2.2.2.1), ((kset_ne (by decide)).trans hmd.2.2.2.2.2.2.2.2.2.2.2.2.1), ((kset_ne (by decide)).trans hmd.2.2.2.2.2.2.2.2.2.2.2.2.2.1), ((kset_ne (by decide)).trans hmd.2.2.2.2.2.2.2.2.2.2.2.2.2.2.1), ((kset_ne (by decide)).trans hmd.2.2.2.2.2.2.2.2.2.2.2.2.2.2.2.1), ((kset_ne (by decide)).trans hmd.2.2.2.2.2.2.2.2.2.2.2.2.2.2.2.2)⟩
            exact k_iret h_o hr rfl (⟨_, rfl, Or.inr (Or.inr ⟨⟨by omega, by omega⟩, ⟨⟨_, _, _, _, _, _, _, _, _, _, _, _, hmdZ, hI, hrx, hN_o⟩, (fun x_o hx => ((kset_ne (by omega)).trans rfl))⟩⟩)⟩) (by omega) (by omega) dX7_addRule_122
      · refine k_iconst h_o dX7_addRule_93 ?_
        refine k_goto h_o 111 dX7_addRule_94 (by decide) ?_
        refine k_put (fs' := [.ref (bd 0), .ref (bd 1), .ref (bd 2), .ref (bd 3), .ref (bd 4), .ref (bd 5), .ref (bd 6), .int (iI ((nr : Nat) : Int)), .ref (bd 8), .ref (bd 9), .ref (bd 10), .ref (bd 11), .int (iI ((T_o : Nat) : Int)), .long (lI fnd), .int (iI rel), .ref (bd 15), .int (iI sz), .ref (bd 17), .ref (bd 18), .int (iI tm), .ref (bd 20), .ref (bd 21), .int (iI sm), .int (iI dp), .int (iI 1)]) h_o 19 kf_X7_60 kt_X7_24 hmd.1 rfl rfl (Nat.le_of_ble_eq_true rfl) rfl dX7_addRule_111 ?_
        refine k_aload_n h_o 1 dX7_addRule_114 rfl rfl ?_
        refine k_get h_o 19 kf_X7_60 kset_eq rfl dX7_addRule_115 ?_
        refine k_ifle h_o 123 (by decide) dX7_addRule_118 (by decide) (fun h118_o => ?_) (fun h118_o => ?_)
        · exfalso; omega
        · refine k_iconst h_o dX7_addRule_121 ?_
          have hmdZ : (kMd ((kset w_o 19 (bd 25) (ob 9 [.ref (bd 0), .ref (bd 1), .ref (bd 2), .ref (bd 3), .ref (bd 4), .ref (bd 5), .ref (bd 6), .int (iI ((nr : Nat) : Int)), .ref (bd 8), .ref (bd 9), .ref (bd 10), .ref (bd 11), .int (iI ((T_o : Nat) : Int)), .long (lI fnd), .int (iI rel), .ref (bd 15), .int (iI sz), .ref (bd 17), .ref (bd 18), .int (iI tm), .ref (bd 20), .ref (bd 21), .int (iI sm), .int (iI dp), .int (iI 1)]))) bd nr g_o T_o cs ams ltA acA mnA rel fnd sz rx N_o tm tr sh sg sm dp 1) := ⟨kset_eq, ((kset_ne (by decide)).trans hmd.2.1), ((kset_ne (by decide)).trans hmd.2.2.1), ((kset_ne (by decide)).trans hmd.2.2.2.1), ((kset_ne (by decide)).trans hmd.2.2.2.2.1), ((kset_ne (by decide)).trans hmd.2.2.2.2.2.1), ((kset_ne (by decide)).trans hmd.2.2.2.2.2.2.1), ((kset_ne (by decide)).trans hmd.2.2.2.2.2.2.2.1), ((kset_ne (by decide)).trans hmd.2.2.2.2.2.2.2.2.1), ((kset_ne (by decide)).trans hmd.2.2.2.2.2.2.2.2.2.1), ((kset_ne (by decide)).trans hmd.2.2.2.2.2.2.2.2.2.2.1), ((kset_ne (by decide)).trans hmd.2.2.2.2.2.2.2.2.2.2.2.1), ((kset_ne (by decide)).trans hmd.2.2.2.2.2.2.2.2.2.2.2.2.1), ((kset_ne (by decide)).trans hmd.2.2.2.2.2.2.2.2.2.2.2.2.2.1), ((kset_ne (by decide)).trans hmd.2.2.2.2.2.2.2.2.2.2.2.2.2.2.1), ((kset_ne (by decide)).trans hmd.2.2.2.2.2.2.2.2.2.2.2.2.2.2.2.1), ((kset_ne (by decide)).trans hmd.2.2.2.2.2.2.2.2.2.2.2.2.2.2.2.2)⟩
          exact k_iret h_o hr rfl (⟨_, rfl, Or.inr (Or.inl ⟨(by omega), ⟨⟨_, _, _, _, _, _, _, _, _, _, _, _, hmdZ, hI, hrx, hN_o⟩, (fun x_o hx => ((kset_ne (by omega)).trans rfl))⟩⟩)⟩) (by omega) (by omega) dX7_addRule_122
    refine k_iload h_o 0 dX7_addRule_47 rfl ?_
    refine k_ifeq h_o 84 (by omega) dX7_addRule_49 (by decide) (fun h49_o => ?_) (fun h49_o => ?_)
    · refine k_iconst h_o dX7_addRule_84 ?_
      refine k_sub (lv' := [(0, .ref (bd 25)), (1, .int (iI x_o)), (2, .int (iI y_o)), (3, .int (iI u_o)), (4, .int (iI v_o)), (5, .int (iI e1))]) [1, 2, 3, 4, 5, 0] rfl ?_
      exact J85 0 (by omega)
    · refine k_iload_n h_o 4 dX7_addRule_52 rfl rfl ?_
      refine k_iconst h_o dX7_addRule_53 ?_
      refine k_icmp_ne h_o 63 (by omega) (by decide) dX7_addRule_54 (by decide) (fun h54_o => ?_) (fun h54_o => ?_)
      · refine k_iload_n h_o 4 dX7_addRule_63 rfl rfl ?_
        refine k_iconst h_o dX7_addRule_64 ?_
        refine k_icmp_ne h_o 80 (by omega) (by decide) dX7_addRule_65 (by decide) (fun h65_o => ?_) (fun h65_o => ?_)
        · refine k_iconst h_o dX7_addRule_80 ?_
          refine k_goto h_o 85 dX7_addRule_81 (by decide) ?_
          refine k_sub (lv' := [(0, .ref (bd 25)), (1, .int (iI x_o)), (2, .int (iI y_o)), (3, .int (iI u_o)), (4, .int (iI v_o)), (5, .int (iI e1))]) [1, 2, 3, 4, 5, 0] rfl ?_
          exact J85 1 (by omega)
        · refine k_iload_n h_o 3 dX7_addRule_68 rfl rfl ?_
          refine k_callS (As := [.int (iI y_o)]) (rest := []) h_o mX7_isLetter kq_4_222 (c_X7_isLetter hl0 (by omega)) rfl rfl (Nat.le_of_ble_eq_true rfl) ⟨rfl, rfl, ⟨(Nat.le_of_ble_eq_true rfl), (Nat.le_of_ble_eq_true rfl)⟩, ⟨(Nat.le_of_ble_eq_true rfl), (Nat.le_of_ble_eq_true rfl)⟩⟩ dX7_addRule_69 (kcI fun z69_o w69_o hp => ?_)
          obtain ⟨rfl, rfl⟩ := hp
          refine k_ifBne h_o 80 dX7_addRule_72 (by decide) (fun h72_o => ?_) (fun h72_o => ?_)
          · refine k_iconst h_o dX7_addRule_80 ?_
            refine k_goto h_o 85 dX7_addRule_81 (by decide) ?_
            refine k_sub (lv' := [(0, .ref (bd 25)), (1, .int (iI x_o)), (2, .int (iI y_o)), (3, .int (iI u_o)), (4, .int (iI v_o)), (5, .int (iI e1))]) [1, 2, 3, 4, 5, 0] rfl ?_
            exact J85 1 (by omega)
          · refine k_iload_n h_o 3 dX7_addRule_75 rfl rfl ?_
            refine k_iload_n h_o 2 dX7_addRule_76 rfl rfl ?_
            refine k_icmp_le h_o 84 (by omega) (by omega) dX7_addRule_77 (by decide) (fun h77_o => ?_) (fun h77_o => ?_)
            · refine k_iconst h_o dX7_addRule_84 ?_
              refine k_sub (lv' := [(0, .ref (bd 25)), (1, .int (iI x_o)), (2, .int (iI y_o)), (3, .int (iI u_o)), (4, .int (iI v_o)), (5, .int (iI e1))]) [1, 2, 3, 4, 5, 0] rfl ?_
              exact J85 0 (by omega)
            · refine k_iconst h_o dX7_addRule_80 ?_
              refine k_goto h_o 85 dX7_addRule_81 (by decide) ?_
              refine k_sub (lv' := [(0, .ref (bd 25)), (1, .int (iI x_o)), (2, .int (iI y_o)), (3, .int (iI u_o)), (4, .int (iI v_o)), (5, .int (iI e1))]) [1, 2, 3, 4, 5, 0] rfl ?_
              exact J85 1 (by omega)
      · refine k_iload h_o 5 dX7_addRule_57 rfl ?_
        refine k_iconst h_o dX7_addRule_59 ?_
        refine k_icmp_ne h_o 84 (by omega) (by decide) dX7_addRule_60 (by decide) (fun h60_o => ?_) (fun h60_o => ?_)
        · refine k_iconst h_o dX7_addRule_84 ?_
          refine k_sub (lv' := [(0, .ref (bd 25)), (1, .int (iI x_o)), (2, .int (iI y_o)), (3, .int (iI u_o)), (4, .int (iI v_o)), (5, .int (iI e1))]) [1, 2, 3, 4, 5, 0] rfl ?_
          exact J85 0 (by omega)
        · refine k_iload_n h_o 4 dX7_addRule_63 rfl rfl ?_
          refine k_iconst h_o dX7_addRule_64 ?_
          refine k_icmp_ne h_o 80 (by omega) (by decide) dX7_addRule_65 (by decide) (fun h65_o => ?_) (fun h65_o => ?_)
          · refine k_iconst h_o dX7_addRule_80 ?_
            refine k_goto h_o 85 dX7_addRule_81 (by decide) ?_
            refine k_sub (lv' := [(0, .ref (bd 25)), (1, .int (iI x_o)), (2, .int (iI y_o)), (3, .int (iI u_o)), (4, .int (iI v_o)), (5, .int (iI e1))]) [1, 2, 3, 4, 5, 0] rfl ?_
            exact J85 1 (by omega)
          · refine k_iload_n h_o 3 dX7_addRule_68 rfl rfl ?_
            refine k_callS (As := [.int (iI y_o)]) (rest := []) h_o mX7_isLetter kq_4_222 (c_X7_isLetter hl0 (by omega)) rfl rfl (Nat.le_of_ble_eq_true rfl) ⟨rfl, rfl, ⟨(Nat.le_of_ble_eq_true rfl), (Nat.le_of_ble_eq_true rfl)⟩, ⟨(Nat.le_of_ble_eq_true rfl), (Nat.le_of_ble_eq_true rfl)⟩⟩ dX7_addRule_69 (kcI fun z69_o w69_o hp => ?_)
            obtain ⟨rfl, rfl⟩ := hp
            refine k_ifBne h_o 80 dX7_addRule_72 (by decide) (fun h72_o => ?_) (fun h72_o => ?_)
            · refine k_iconst h_o dX7_addRule_80 ?_
              refine k_goto h_o 85 dX7_addRule_81 (by decide) ?_
              refine k_sub (lv' := [(0, .ref (bd 25)), (1, .int (iI x_o)), (2, .int (iI y_o)), (3, .int (iI u_o)), (4, .int (iI v_o)), (5, .int (iI e1))]) [1, 2, 3, 4, 5, 0] rfl ?_
              exact J85 1 (by omega)
            · refine k_iload_n h_o 3 dX7_addRule_75 rfl rfl ?_
              refine k_iload_n h_o 2 dX7_addRule_76 rfl rfl ?_
              refine k_icmp_le h_o 84 (by omega) (by omega) dX7_addRule_77 (by decide) (fun h77_o => ?_) (fun h77_o => ?_)
              · refine k_iconst h_o dX7_addRule_84 ?_
                refine k_sub (lv' := [(0, .ref (bd 25)), (1, .int (iI x_o)), (2, .int (iI y_o)), (3, .int (iI u_o)), (4, .int (iI v_o)), (5, .int (iI e1))]) [1, 2, 3, 4, 5, 0] rfl ?_
                exact J85 0 (by omega)
              · refine k_iconst h_o dX7_addRule_80 ?_
                refine k_goto h_o 85 dX7_addRule_81 (by decide) ?_
                refine k_sub (lv' := [(0, .ref (bd 25)), (1, .int (iI x_o)), (2, .int (iI y_o)), (3, .int (iI u_o)), (4, .int (iI v_o)), (5, .int (iI e1))]) [1, 2, 3, 4, 5, 0] rfl ?_
                exact J85 1 (by omega)
  refine k_iload_n h_o 1 dX7_addRule_0 rfl rfl ?_
  refine k_callS (As := [.int (iI x_o)]) (rest := []) h_o mX7_isName kq_4_211 (c_X7_isName hl0 (by omega)) rfl rfl (Nat.le_of_ble_eq_true rfl) ⟨rfl, rfl, ⟨(Nat.le_of_ble_eq_true rfl), (Nat.le_of_ble_eq_true rfl)⟩, ⟨(Nat.le_of_ble_eq_true rfl), (Nat.le_of_ble_eq_true rfl)⟩⟩ dX7_addRule_1 (kcI fun z1_o w1_o hp => ?_)
  obtain ⟨rfl, rfl⟩ := hp
  refine k_ifBeq h_o 44 dX7_addRule_4 (by decide) (fun h4_o => ?_) (fun h4_o => ?_)
  · refine k_iconst h_o dX7_addRule_44 ?_
    exact J45 0 (by omega)
  · refine k_iload_n h_o 2 dX7_addRule_7 rfl rfl ?_
    refine k_callS (As := [.int (iI y_o)]) (rest := []) h_o mX7_isSymbol kq_4_219 (c_X7_isSymbol hl0 (by omega)) rfl rfl (Nat.le_of_ble_eq_true rfl) ⟨rfl, rfl, ⟨(Nat.le_of_ble_eq_true rfl), (Nat.le_of_ble_eq_true rfl)⟩, ⟨(Nat.le_of_ble_eq_true rfl), (Nat.le_of_ble_eq_true rfl)⟩⟩ dX7_addRule_8 (kcI fun z8_o w8_o hp => ?_)
    obtain ⟨rfl, rfl⟩ := hp
    refine k_ifBeq h_o 44 dX7_addRule_11 (by decide) (fun h11_o => ?_) (fun h11_o => ?_)
    · refine k_iconst h_o dX7_addRule_44 ?_
      exact J45 0 (by omega)
    · refine k_iload_n h_o 3 dX7_addRule_14 rfl rfl ?_
      refine k_iconst h_o dX7_addRule_15 ?_
      refine k_icmp_eq h_o 26 (by omega) (by decide) dX7_addRule_16 (by decide) (fun h16_o => ?_) (fun h16_o => ?_)
      · refine k_iload h_o 4 dX7_addRule_26 rfl ?_
        refine k_iconst h_o dX7_addRule_28 ?_
        refine k_icmp_eq h_o 40 (by omega) (by decide) dX7_addRule_29 (by decide) (fun h29_o => ?_) (fun h29_o => ?_)
        · refine k_iconst h_o dX7_addRule_40 ?_
          refine k_goto h_o 45 dX7_addRule_41 (by decide) ?_
          exact J45 1 (by omega)
        · refine k_iload h_o 4 dX7_addRule_32 rfl ?_
          refine k_callS (As := [.int (iI v_o)]) (rest := []) h_o mX7_isSymbol kq_4_219 (c_X7_isSymbol hl0 (by omega)) rfl rfl (Nat.le_of_ble_eq_true rfl) ⟨rfl, rfl, ⟨(Nat.le_of_ble_eq_true rfl), (Nat.le_of_ble_eq_true rfl)⟩, ⟨(Nat.le_of_ble_eq_true rfl), (Nat.le_of_ble_eq_true rfl)⟩⟩ dX7_addRule_34 (kcI fun z34_o w34_o hp => ?_)
          obtain ⟨rfl, rfl⟩ := hp
          refine k_ifBeq h_o 44 dX7_addRule_37 (by decide) (fun h37_o => ?_) (fun h37_o => ?_)
          · refine k_iconst h_o dX7_addRule_44 ?_
            exact J45 0 (by omega)
          · refine k_iconst h_o dX7_addRule_40 ?_
            refine k_goto h_o 45 dX7_addRule_41 (by decide) ?_
            exact J45 1 (by omega)
      · refine k_iload_n h_o 3 dX7_addRule_19 rfl rfl ?_
        refine k_callS (As := [.int (iI u_o)]) (rest := []) h_o mX7_isSymbol kq_4_219 (c_X7_isSymbol hl0 (by omega)) rfl rfl (Nat.le_of_ble_eq_true rfl) ⟨rfl, rfl, ⟨(Nat.le_of_ble_eq_true rfl), (Nat.le_of_ble_eq_true rfl)⟩, ⟨(Nat.le_of_ble_eq_true rfl), (Nat.le_of_ble_eq_true rfl)⟩⟩ dX7_addRule_20 (kcI fun z20_o w20_o hp => ?_)
        obtain ⟨rfl, rfl⟩ := hp
        refine k_ifBeq h_o 44 dX7_addRule_23 (by decide) (fun h23_o => ?_) (fun h23_o => ?_)
        · refine k_iconst h_o dX7_addRule_44 ?_
          exact J45 0 (by omega)
        · refine k_iload h_o 4 dX7_addRule_26 rfl ?_
          refine k_iconst h_o dX7_addRule_28 ?_
          refine k_icmp_eq h_o 40 (by omega) (by decide) dX7_addRule_29 (by decide) (fun h29_o => ?_) (fun h29_o => ?_)
          · refine k_iconst h_o dX7_addRule_40 ?_
            refine k_goto h_o 45 dX7_addRule_41 (by decide) ?_
            exact J45 1 (by omega)
          · refine k_iload h_o 4 dX7_addRule_32 rfl ?_
            refine k_callS (As := [.int (iI v_o)]) (rest := []) h_o mX7_isSymbol kq_4_219 (c_X7_isSymbol hl0 (by omega)) rfl rfl (Nat.le_of_ble_eq_true rfl) ⟨rfl, rfl, ⟨(Nat.le_of_ble_eq_true rfl), (Nat.le_of_ble_eq_true rfl)⟩, ⟨(Nat.le_of_ble_eq_true rfl), (Nat.le_of_ble_eq_true rfl)⟩⟩ dX7_addRule_34 (kcI fun z34_o w34_o hp => ?_)
            obtain ⟨rfl, rfl⟩ := hp
            refine k_ifBeq h_o 44 dX7_addRule_37 (by decide) (fun h37_o => ?_) (fun h37_o => ?_)
            · refine k_iconst h_o dX7_addRule_44 ?_
              exact J45 0 (by omega)
            · refine k_iconst h_o dX7_addRule_40 ?_
              refine k_goto h_o 45 dX7_addRule_41 (by decide) ?_
              exact J45 1 (by omega)

set_option maxHeartbeats 4000000 in
set_option maxRecDepth 100000 in
theorem c_X7_rules {E_o : kE} {l_o : Launch} (hl0 : l_o.stackTraces = false) {w_o : kW} {bd : Nat → Nat} {nr : Nat} {g_o : Nat → Nat → Int} {T_o : Nat} {lts : Nat → Nat → Int} {cs : Nat → Int} {acs : Nat → Nat → Int} {ams : Nat → Int} {rel fnd th : Int}  (hst : kMu w_o bd nr g_o T_o lts cs acs ams rel fnd th)  : kM E_o l_o yX7_rules (.code yX7_rules cX7_rules 3 (some .int) :: kAL) { frames := 0, cells := 0, slots := 0, locals := 0 } 0 0 [.ref (bd 25)] w_o (pI (fun z_o w2_o => (m_cl g_o nr = z_o ∧ kMv w_o w2_o bd nr g_o T_o lts cs acs ams rel fnd 0))) := by
  refine kM_of hl0 (by decide +kernel) (Nat.le_of_ble_eq_true rfl) ?_
  intro X_o hXl h_o hr hin
  subst hXl
  obtain ⟨ltA, acA, mnA, sz, rx, N_o, tm, tr, sh, sg, sm, dp, hmd, hI, hrx, hN_o⟩ := hst
  obtain ⟨hwf, hnr, hT6, hmn, hg0, htx⟩ := id hI
  show kG E_o X_o 3 0 0 w_o 0 [(0, .ref (bd 25))] []
  refine k_aload_n h_o 0 dX7_rules_0 rfl rfl ?_
  refine k_iconst h_o dX7_rules_1 ?_
  refine k_put (fs' := [.ref (bd 0), .ref (bd 1), .ref (bd 2), .ref (bd 3), .ref (bd 4), .ref (bd 5), .ref (bd 6), .int (iI ((nr : Nat) : Int)), .ref (bd 8), .ref (bd 9), .ref (bd 10), .ref (bd 11), .int (iI ((T_o : Nat) : Int)), .long (lI fnd), .int (iI rel), .ref (bd 15), .int (iI sz), .ref (bd 17), .ref (bd 18), .int (iI tm), .ref (bd 20), .ref (bd 21), .int (iI sm), .int (iI dp), .int (iI 0)]) h_o 19 kf_X7_60 kt_X7_24 hmd.1 rfl rfl (Nat.le_of_ble_eq_true rfl) rfl dX7_rules_2 ?_
  refine k_iconst h_o dX7_rules_5 ?_
  refine k_istore_n (lv' := [(1, .int (iI 0)), (0, .ref (bd 25))]) h_o dX7_rules_6 rfl (by decide) rfl ?_
  refine k_iconst h_o dX7_rules_7 ?_
  refine k_istore_n (lv' := [(2, .int (iI 0)), (1, .int (iI 0)), (0, .ref (bd 25))]) h_o dX7_rules_8 rfl (by decide) rfl ?_
  have L9 : ∀ (mm : Nat) (r_o : Int), (0 ≤ r_o ∧ r_o ≤ ((nr : Nat) : Int)) → ((nr : Nat) : Int) - r_o < (mm : Int) → kG E_o X_o 3 0 0 (kset w_o 19 (bd 25) (ob 9 [.ref (bd 0), .ref (bd 1), .ref (bd 2), .ref (bd 3), .ref (bd 4), .ref (bd 5), .ref (bd 6), .int (iI ((nr : Nat) : Int)), .ref (bd 8), .ref (bd 9), .ref (bd 10), .ref (bd 11), .int (iI ((T_o : Nat) : Int)), .long (lI fnd), .int (iI rel), .ref (bd 15), .int (iI sz), .ref (bd 17), .ref (bd 18), .int (iI tm), .ref (bd 20), .ref (bd 21), .int (iI sm), .int (iI dp), .int (iI 0)])) 9 [(0, .ref (bd 25)), (1, .int (iI (m_cl g_o (r_o).toNat))), (2, .int (iI r_o))] [] := by
    intro mm
    induction mm with
    | zero =>
      intro r_o hr2 hm_o
      exfalso; omega
    | succ mm ih9 =>
      intro r_o hr2 hm_o
      refine k_iload_n h_o 2 dX7_rules_9 rfl rfl ?_
      refine k_aload_n h_o 0 dX7_rules_10 rfl rfl ?_
      refine k_get h_o 19 kf_X7_96 kset_eq rfl dX7_rules_11 ?_
      refine k_icmp_ge h_o 40 (by omega) (by omega) dX7_rules_14 (by decide) (fun h14_o => ?_) (fun h14_o => ?_)
      · have hrn : r_o.toNat = nr := by omega
        refine k_iload_n h_o 1 dX7_rules_40 rfl rfl ?_
        have hmdZ : (kMd ((kset w_o 19 (bd 25) (ob 9 [.ref (bd 0), .ref (bd 1), .ref (bd 2), .ref (bd 3), .ref (bd 4), .ref (bd 5), .ref (bd 6), .int (iI ((nr : Nat) : Int)), .ref (bd 8), .ref (bd 9), .ref (bd 10), .ref (bd 11), .int (iI ((T_o : Nat) : Int)), .long (lI fnd), .int (iI rel), .ref (bd 15), .int (iI sz), .ref (bd 17), .ref (bd 18), .int (iI tm), .ref (bd 20), .ref (bd 21), .int (iI sm), .int (iI dp), .int (iI 0)]))) bd nr g_o T_o cs ams ltA acA mnA rel fnd sz rx N_o tm tr sh sg sm dp 0) := ⟨kset_eq, ((kset_ne (by decide)).trans hmd.2.1), ((kset_ne (by decide)).trans hmd.2.2.1), ((kset_ne (by decide)).trans hmd.2.2.2.1), ((kset_ne (by decide)).trans hmd.2.2.2.2.1), ((kset_ne (by decide)).trans hmd.2.2.2.2.2.1), ((kset_ne (by decide)).trans hmd.2.2.2.2.2.2.1), ((kset_ne (by decide)).trans hmd.2.2.2.2.2.2.2.1), ((kset_ne (by decide)).trans hmd.2.2.2.2.2.2.2.2.1), ((kset_ne (by decide)).trans hmd.2.2.2.2.2.2.2.2.2.1), ((kset_ne (by decide)).trans hmd.2.2.2.2.2.2.2.2.2.2.1), ((kset_ne (by decide)).trans hmd.2.2.2.2.2.2.2.2.2.2.2.1), ((kset_ne (by decide)).trans hmd.2.2.2.2.2.2.2.2.2.2.2.2.1), ((kset_ne (by decide)).trans hmd.2.2.2.2.2.2.2.2.2.2.2.2.2.1), ((kset_ne (by decide)).trans hmd.2.2.2.2.2.2.2.2.2.2.2.2.2.2.1), ((kset_ne (by decide)).trans hmd.2.2.2.2.2.2.2.2.2.2.2.2.2.2.2.1), ((kset_ne (by decide)).trans hmd.2.2.2.2.2.2.2.2.2.2.2.2.2.2.2.2)⟩
        exact k_iret h_o hr rfl (⟨_, rfl, ⟨(by rw [hrn]), ⟨⟨_, _, _, _, _, _, _, _, _, _, _, _, hmdZ, hI, hrx, hN_o⟩, (fun x_o hx => ((kset_ne (by omega)).trans rfl))⟩⟩⟩) (by omega) (by omega) dX7_rules_41
      · obtain ⟨hrw, hq5, hq6, hq7, hq8⟩ := hwf r_o.toNat (by omega)
        refine k_iload_n h_o 1 dX7_rules_17 rfl rfl ?_
        refine k_aload_n h_o 0 dX7_rules_18 rfl rfl ?_
        refine k_get h_o 19 kf_X7_28 kset_eq rfl dX7_rules_19 ?_
        refine k_iload_n h_o 2 dX7_rules_22 rfl rfl ?_
        refine k_zald h_o 26 ((kset_ne (by decide)).trans hmd.2.2.2.2.2.2.2.1) (by omega) (by decide) dX7_rules_23 ?_
        refine k_ifeq h_o 31 (by omega) dX7_rules_24 (by decide) (fun h24_o => ?_) (fun h24_o => ?_)
        · refine k_iconst h_o dX7_rules_31 ?_
          refine k_iadd h_o dX7_rules_32 ?_
          refine k_istore_n (lv' := [(1, .int (iI ((m_cl g_o (r_o).toNat) + 1))), (0, .ref (bd 25)), (2, .int (iI r_o))]) h_o dX7_rules_33 rfl (by decide) rfl ?_
          refine k_iinc (lv' := [(2, .int (iI (r_o + 1))), (1, .int (iI ((m_cl g_o (r_o).toNat) + 1))), (0, .ref (bd 25))]) h_o 2 dX7_rules_34 rfl (by decide) rfl ?_
          refine k_goto h_o 9 dX7_rules_37 (by decide) ?_
          refine k_sub (lv' := [(0, .ref (bd 25)), (1, .int (iI ((m_cl g_o (r_o).toNat) + 1))), (2, .int (iI (r_o + 1)))]) [2, 1, 0] rfl ?_
          refine k_lv (lv' := [(0, .ref (bd 25)), (1, .int (iI (m_cl g_o (r_o + 1).toNat))), (2, .int (iI (r_o + 1)))]) (by rw [show m_cl g_o (r_o + 1).toNat = m_cl g_o r_o.toNat + 1 from by rw [show (r_o + 1).toNat = r_o.toNat + 1 by omega]; show m_cl g_o r_o.toNat + _ = _; rw [if_pos h24_o]]) ?_
          exact ih9 (r_o + 1) (by omega) (by omega)
        · refine k_iconst h_o dX7_rules_27 ?_
          refine k_goto h_o 32 dX7_rules_28 (by decide) ?_
          refine k_iadd h_o dX7_rules_32 ?_
          refine k_istore_n (lv' := [(1, .int (iI ((m_cl g_o (r_o).toNat) + 0))), (0, .ref (bd 25)), (2, .int (iI r_o))]) h_o dX7_rules_33 rfl (by decide) rfl ?_
          refine k_iinc (lv' := [(2, .int (iI (r_o + 1))), (1, .int (iI ((m_cl g_o (r_o).toNat) + 0))), (0, .ref (bd 25))]) h_o 2 dX7_rules_34 rfl (by decide) rfl ?_
          refine k_goto h_o 9 dX7_rules_37 (by decide) ?_
          refine k_sub (lv' := [(0, .ref (bd 25)), (1, .int (iI ((m_cl g_o (r_o).toNat) + 0))), (2, .int (iI (r_o + 1)))]) [2, 1, 0] rfl ?_
          refine k_lv (lv' := [(0, .ref (bd 25)), (1, .int (iI (m_cl g_o (r_o + 1).toNat))), (2, .int (iI (r_o + 1)))]) (by rw [show m_cl g_o (r_o + 1).toNat = m_cl g_o r_o.toNat + 0 from by rw [show (r_o + 1).toNat = r_o.toNat + 1 by omega]; show m_cl g_o r_o.toNat + _ = _; rw [if_neg h24_o]]) ?_
          exact ih9 (r_o + 1) (by omega) (by omega)
  refine k_sub (lv' := [(0, .ref (bd 25)), (1, .int (iI 0)), (2, .int (iI 0))]) [2, 1, 0] rfl ?_
  refine k_lv (lv' := [(0, .ref (bd 25)), (1, .int (iI (m_cl g_o (0 : Int).toNat))), (2, .int (iI 0))]) (by rw [show m_cl g_o (0 : Int).toNat = 0 from rfl]) ?_
  exact L9 ((((nr : Nat) : Int) - 0 : Int).toNat + 1) 0 (by omega) (by omega)

set_option maxHeartbeats 4000000 in
set_option maxRecDepth 100000 in
theorem c_X7_addText {E_o : kE} {l_o : Launch} (hl0 : l_o.stackTraces = false) {w_o : kW} {bd : Nat → Nat} {nr : Nat} {g_o : Nat → Nat → Int} {T_o : Nat} {lts : Nat → Nat → Int} {cs : Nat → Int} {acs : Nat → Nat → Int} {ams : Nat → Int} {rel fnd th : Int} {x_o : Int} (hst : kMu w_o bd nr g_o T_o lts cs acs ams rel fnd th) (hx : -2147483648 ≤ x_o ∧ x_o < 2147483648) : kM E_o l_o yX7_addText (.code yX7_addText cX7_addText 2 (some .int) :: kAL) { frames := 2, cells := 0, slots := 0, locals := 45 } 0 0 [.ref (bd 25), .int (iI x_o)] w_o (pI (fun z_o w2_o => ((m_isL x_o ∧ T_o < 6) ∧ ((T_o : Nat) : Int) = z_o ∧ kMv w_o w2_o bd nr g_o (T_o + 1) (kup lts T_o (kup (fun _ => 0) (0 : Int).toNat x_o)) (kup cs T_o 1) (kup acs T_o (fun _ => 0)) (kup ams T_o 0) rel (fnd + 1) 0) ∨ ((¬ m_isL x_o) ∧ kMv w_o w2_o bd nr g_o T_o lts cs acs ams rel fnd 1) ∨ ((m_isL x_o ∧ T_o = 6) ∧ kMv w_o w2_o bd nr g_o T_o lts cs acs ams rel fnd 2))) := by
  refine kM_of hl0 (by decide +kernel) (Nat.le_of_ble_eq_true rfl) ?_
  intro X_o hXl h_o hr hin
  subst hXl
  obtain ⟨ltA, acA, mnA, sz, rx, N_o, tm, tr, sh, sg, sm, dp, hmd, hI, hrx, hN_o⟩ := hst
  obtain ⟨hwf, hnr, hT6, hmn, hg0, htx⟩ := id hI
  show kG E_o X_o 2 0 0 w_o 0 [(0, .ref (bd 25)), (1, .int (iI x_o))] []
  refine k_aload_n h_o 0 dX7_addText_0 rfl rfl ?_
  refine k_iload_n h_o 1 dX7_addText_1 rfl rfl ?_
  refine k_callS (As := [.int (iI x_o)]) (rest := [.ref (bd 25)]) h_o mX7_isLetter kq_4_222 (c_X7_isLetter hl0 (by omega)) rfl rfl (Nat.le_of_ble_eq_true rfl) ⟨rfl, rfl, ⟨(Nat.le_of_ble_eq_true rfl), (Nat.le_of_ble_eq_true rfl)⟩, ⟨(Nat.le_of_ble_eq_true rfl), (Nat.le_of_ble_eq_true rfl)⟩⟩ dX7_addText_2 (kcI fun z2_o w2_o hp => ?_)
  obtain ⟨rfl, rfl⟩ := hp
  refine k_ifBne h_o 12 dX7_addText_5 (by decide) (fun h5_o => ?_) (fun h5_o => ?_)
  · refine k_aload_n h_o 0 dX7_addText_12 rfl rfl ?_
    refine k_get h_o 19 kf_X7_134 hmd.1 rfl dX7_addText_13 ?_
    refine k_bipush h_o dX7_addText_16 (by decide) ?_
    refine k_icmp_ne h_o 25 (by omega) (by decide) dX7_addText_18 (by decide) (fun h18_o => ?_) (fun h18_o => ?_)
    · refine k_iconst h_o dX7_addText_25 ?_
      refine k_put (fs' := [.ref (bd 0), .ref (bd 1), .ref (bd 2), .ref (bd 3), .ref (bd 4), .ref (bd 5), .ref (bd 6), .int (iI ((nr : Nat) : Int)), .ref (bd 8), .ref (bd 9), .ref (bd 10), .ref (bd 11), .int (iI ((T_o : Nat) : Int)), .long (lI fnd), .int (iI rel), .ref (bd 15), .int (iI sz), .ref (bd 17), .ref (bd 18), .int (iI tm), .ref (bd 20), .ref (bd 21), .int (iI sm), .int (iI dp), .int (iI 0)]) h_o 19 kf_X7_60 kt_X7_24 hmd.1 rfl rfl (Nat.le_of_ble_eq_true rfl) rfl dX7_addText_26 ?_
      refine k_aload_n h_o 0 dX7_addText_29 rfl rfl ?_
      refine k_get h_o 19 kf_X7_60 kset_eq rfl dX7_addText_30 ?_
      refine k_ifle h_o 38 (by decide) dX7_addText_33 (by decide) (fun h33_o => ?_) (fun h33_o => ?_)
      · refine k_aload_n h_o 0 dX7_addText_38 rfl rfl ?_
        refine k_get h_o 19 kf_X7_32 kset_eq rfl dX7_addText_39 ?_
        refine k_bipush h_o dX7_addText_42 (by decide) ?_
        refine k_aload_n h_o 0 dX7_addText_44 rfl rfl ?_
        refine k_get h_o 19 kf_X7_134 kset_eq rfl dX7_addText_45 ?_
        refine k_imul h_o dX7_addText_48 ?_
        refine k_iload_n h_o 1 dX7_addText_49 rfl rfl ?_
        refine k_iast h_o 28 ((kset_ne (by decide)).trans hmd.2.2.2.2.2.2.2.2.1) (by omega) (by decide) dX7_addText_50 ?_
        refine k_aload_n h_o 0 dX7_addText_51 rfl rfl ?_
        refine k_get h_o 19 kf_X7_35 ((kset_ne (by decide)).trans kset_eq) rfl dX7_addText_52 ?_
        refine k_aload_n h_o 0 dX7_addText_55 rfl rfl ?_
        refine k_get h_o 19 kf_X7_134 ((kset_ne (by decide)).trans kset_eq) rfl dX7_addText_56 ?_
        refine k_iconst h_o dX7_addText_59 ?_
        refine k_iast h_o 29 ((kset_ne (by decide)).trans ((kset_ne (by decide)).trans hmd.2.2.2.2.2.2.2.2.2.1)) (by omega) (by decide) dX7_addText_60 ?_
        refine k_aload_n h_o 0 dX7_addText_61 rfl rfl ?_
        refine k_get h_o 19 kf_X7_41 ((kset_ne (by decide)).trans ((kset_ne (by decide)).trans kset_eq)) rfl dX7_addText_62 ?_
        refine k_aload_n h_o 0 dX7_addText_65 rfl rfl ?_
        refine k_get h_o 19 kf_X7_134 ((kset_ne (by decide)).trans ((kset_ne (by decide)).trans kset_eq)) rfl dX7_addText_66 ?_
        refine k_iconst h_o dX7_addText_69 ?_
        refine k_iast h_o 31 ((kset_ne (by decide)).trans ((kset_ne (by decide)).trans ((kset_ne (by decide)).trans hmd.2.2.2.2.2.2.2.2.2.2.2.1))) (by omega) (by decide) dX7_addText_70 ?_
        refine k_aload_n h_o 0 dX7_addText_71 rfl rfl ?_
        refine k_dup h_o dX7_addText_72 rfl ?_
        refine k_get h_o 19 kf_X7_137 ((kset_ne (by decide)).trans ((kset_ne (by decide)).trans ((kset_ne (by decide)).trans kset_eq))) rfl dX7_addText_73 ?_
        refine k_lconst (z := 1) h_o dX7_addText_76 (by decide) ?_
        refine k_ladd h_o dX7_addText_77 ?_
        refine k_put (fs' := [.ref (bd 0), .ref (bd 1), .ref (bd 2), .ref (bd 3), .ref (bd 4), .ref (bd 5), .ref (bd 6), .int (iI ((nr : Nat) : Int)), .ref (bd 8), .ref (bd 9), .ref (bd 10), .ref (bd 11), .int (iI ((T_o : Nat) : Int)), .long (lI (fnd + 1)), .int (iI rel), .ref (bd 15), .int (iI sz), .ref (bd 17), .ref (bd 18), .int (iI tm), .ref (bd 20), .ref (bd 21), .int (iI sm), .int (iI dp), .int (iI 0)]) h_o 19 kf_X7_137 kt_X7_13 ((kset_ne (by decide)).trans ((kset_ne (by decide)).trans ((kset_ne (by decide)).trans kset_eq))) rfl rfl (Nat.le_of_ble_eq_true rfl) rfl dX7_addText_78 ?_
        refine k_aload_n h_o 0 dX7_addText_81 rfl rfl ?_
        refine k_dup h_o dX7_addText_82 rfl ?_
        refine k_get h_o 19 kf_X7_134 kset_eq rfl dX7_addText_83 ?_
        refine k_iconst h_o dX7_addText_86 ?_
        refine k_iadd h_o dX7_addText_87 ?_
        refine k_top (z' := ((T_o + 1 : Nat) : Int)) (by omega) ?_
        refine k_put (fs' := [.ref (bd 0), .ref (bd 1), .ref (bd 2), .ref (bd 3), .ref (bd 4), .ref (bd 5), .ref (bd 6), .int (iI ((nr : Nat) : Int)), .ref (bd 8), .ref (bd 9), .ref (bd 10), .ref (bd 11), .int (iI ((T_o + 1 : Nat) : Int)), .long (lI (fnd + 1)), .int (iI rel), .ref (bd 15), .int (iI sz), .ref (bd 17), .ref (bd 18), .int (iI tm), .ref (bd 20), .ref (bd 21), .int (iI sm), .int (iI dp), .int (iI 0)]) h_o 19 kf_X7_134 kt_X7_12 kset_eq rfl rfl (Nat.le_of_ble_eq_true rfl) rfl dX7_addText_88 ?_
        have hmdU : (kMd ((kset (kset (kset (kset (kset (kset w_o 19 (bd 25) (ob 9 [.ref (bd 0), .ref (bd 1), .ref (bd 2), .ref (bd 3), .ref (bd 4), .ref (bd 5), .ref (bd 6), .int (iI ((nr : Nat) : Int)), .ref (bd 8), .ref (bd 9), .ref (bd 10), .ref (bd 11), .int (iI ((T_o : Nat) : Int)), .long (lI fnd), .int (iI rel), .ref (bd 15), .int (iI sz), .ref (bd 17), .ref (bd 18), .int (iI tm), .ref (bd 20), .ref (bd 21), .int (iI sm), .int (iI dp), .int (iI 0)])) 28 (bd 8) (ai 60 (kup ltA ((10 * ((T_o : Nat) : Int)).toNat) x_o))) 29 (bd 9) (ai 6 (kup cs (((T_o : Nat) : Int).toNat) 1))) 31 (bd 11) (ai 6 (kup ams (((T_o : Nat) : Int).toNat) 0))) 19 (bd 25) (ob 9 [.ref (bd 0), .ref (bd 1), .ref (bd 2), .ref (bd 3), .ref (bd 4), .ref (bd 5), .ref (bd 6), .int (iI ((nr : Nat) : Int)), .ref (bd 8), .ref (bd 9), .ref (bd 10), .ref (bd 11), .int (iI ((T_o : Nat) : Int)), .long (lI (fnd + 1)), .int (iI rel), .ref (bd 15), .int (iI sz), .ref (bd 17), .ref (bd 18), .int (iI tm), .ref (bd 20), .ref (bd 21), .int (iI sm), .int (iI dp), .int (iI 0)])) 19 (bd 25) (ob 9 [.ref (bd 0), .ref (bd 1), .ref (bd 2), .ref (bd 3), .ref (bd 4), .ref (bd 5), .ref (bd 6), .int (iI ((nr : Nat) : Int)), .ref (bd 8), .ref (bd 9), .ref (bd 10), .ref (bd 11), .int (iI ((T_o + 1 : Nat) : Int)), .long (lI (fnd + 1)), .int (iI rel), .ref (bd 15), .int (iI sz), .ref (bd 17), .ref (bd 18), .int (iI tm), .ref (bd 20), .ref (bd 21), .int (iI sm), .int (iI dp), .int (iI 0)]))) bd nr g_o (T_o + 1) (kup cs T_o 1) (kup ams T_o 0) (kup ltA ((10 * ((T_o : Nat) : Int)).toNat) x_o) acA mnA rel (fnd + 1) sz rx N_o tm tr sh sg sm dp 0) := ⟨kset_eq, ((kset_ne (by decide)).trans ((kset_ne (by decide)).trans ((kset_ne (by decide)).trans ((kset_ne (by decide)).trans ((kset_ne (by decide)).trans ((kset_ne (by decide)).trans hmd.2.1)))))), ((kset_ne (by decide)).trans ((kset_ne (by decide)).trans ((kset_ne (by decide)).trans ((kset_ne (by decide)).trans ((kset_ne (by decide)).trans ((kset_ne (by decide)).trans hmd.2.2.1)))))), ((kset_ne (by decide)).trans ((kset_ne (by decide)).trans ((kset_ne (by decide)).trans ((kset_ne (by decide)).trans ((kset_ne (by decide)).trans ((kset_ne (by decide)).trans hmd.2.2.2.1)))))), ((kset_ne (by decide)).trans ((kset_ne (by decide)).trans ((kset_ne (by decide)).trans ((kset_ne (by decide)).trans ((kset_ne (by decide)).trans ((kset_ne (by decide)).trans hmd.2.2.2.2.1)))))), ((kset_ne (by decide)).trans ((kset_ne (by decide)).trans ((kset_ne (by decide)).trans ((kset_ne (by decide)).trans ((kset_ne (by decide)).trans ((kset_ne (by decide)).trans hmd.2.2.2.2.2.1)))))), ((kset_ne (by decide)).trans ((kset_ne (by decide)).trans ((kset_ne (by decide)).trans ((kset_ne (by decide)).trans ((kset_ne (by decide)).trans ((kset_ne (by decide)).trans hmd.2.2.2.2.2.2.1)))))), ((kset_ne (by decide)).trans ((kset_ne (by decide)).trans ((kset_ne (by decide)).trans ((kset_ne (by decide)).trans ((kset_ne (by decide)).trans ((kset_ne (by decide)).trans hmd.2.2.2.2.2.2.2.1)))))), ((kset_ne (by decide)).trans ((kset_ne (by decide)).trans ((kset_ne (by decide)).trans ((kset_ne (by decide)).trans kset_eq)))), ((kset_ne (by decide)).trans ((kset_ne (by decide)).trans ((kset_ne (by decide)).trans kset_eq))), ((kset_ne (by decide)).trans ((kset_ne (by decide)).trans ((kset_ne (by decide)).trans ((kset_ne (by decide)).trans ((kset_ne (by decide)).trans ((kset_ne (by decide)).trans hmd.2.2.2.2.2.2.2.2.2.2.1)))))), ((kset_ne (by decide)).trans ((kset_ne (by decide)).trans kset_eq)), ((kset_ne (by decide)).trans ((kset_ne (by decide)).trans ((kset_ne (by decide)).trans ((kset_ne (by decide)).trans ((kset_ne (by decide)).trans ((kset_ne (by decide)).trans hmd.2.2.2.2.2.2.2.2.2.2.2.2.1)))))), ((kset_ne (by decide)).trans ((kset_ne (by decide)).trans ((kset_ne (by decide)).trans ((kset_ne (by decide)).trans ((kset_ne (by decide)).trans ((kset_ne (by decide)).trans hmd.2.2.2.2.2.2.2.2.2.2.2.2.2.1)))))), ((kset_ne (by decide)).trans ((kset_ne (by decide)).trans ((kset_ne (by decide)).trans ((kset_ne (by decide)).trans ((kset_ne (by decide)).trans ((kset_ne (by decide)).trans hmd.2.2.2.2.2.2.2.2.2.2.2.2.2.2.1)))))), ((kset_ne (by decide)).trans ((kset_ne (by decide)).trans ((kset_ne (by decide)).trans ((kset_ne (by decide)).trans ((kset_ne (by decide)).trans ((kset_ne (by decide)).trans hmd.2.2.2.2.2.2.2.2.2.2.2.2.2.2.2.1)))))), ((kset_ne (by decide)).trans ((kset_ne (by decide)).trans ((kset_ne (by decide)).trans ((kset_ne (by decide)).trans ((kset_ne (by decide)).trans ((kset_ne (by decide)).trans hmd.2.2.2.2.2.2.2.2.2.2.2.2.2.2.2.2))))))⟩
        refine k_aload_n h_o 0 dX7_addText_91 rfl rfl ?_
        refine k_get h_o 19 kf_X7_134 hmdU.1 rfl dX7_addText_92 ?_
        refine k_iconst h_o dX7_addText_95 ?_
        refine k_isub h_o dX7_addText_96 ?_
        have hmdZ : (kMd ((kset (kset (kset (kset (kset (kset w_o 19 (bd 25) (ob 9 [.ref (bd 0), .ref (bd 1), .ref (bd 2), .ref (bd 3), .ref (bd 4), .ref (bd 5), .ref (bd 6), .int (iI ((nr : Nat) : Int)), .ref (bd 8), .ref (bd 9), .ref (bd 10), .ref (bd 11), .int (iI ((T_o : Nat) : Int)), .long (lI fnd), .int (iI rel), .ref (bd 15), .int (iI sz), .ref (bd 17), .ref (bd 18), .int (iI tm), .ref (bd 20), .ref (bd 21), .int (iI sm), .int (iI dp), .int (iI 0)])) 28 (bd 8) (ai 60 (kup ltA ((10 * ((T_o : Nat) : Int)).toNat) x_o))) 29 (bd 9) (ai 6 (kup cs (((T_o : Nat) : Int).toNat) 1))) 31 (bd 11) (ai 6 (kup ams (((T_o : Nat) : Int).toNat) 0))) 19 (bd 25) (ob 9 [.ref (bd 0), .ref (bd 1), .ref (bd 2), .ref (bd 3), .ref (bd 4), .ref (bd 5), .ref (bd 6), .int (iI ((nr : Nat) : Int)), .ref (bd 8), .ref (bd 9), .ref (bd 10), .ref (bd 11), .int (iI ((T_o : Nat) : Int)), .long (lI (fnd + 1)), .int (iI rel), .ref (bd 15), .int (iI sz), .ref (bd 17), .ref (bd 18), .int (iI tm), .ref (bd 20), .ref (bd 21), .int (iI sm), .int (iI dp), .int (iI 0)])) 19 (bd 25) (ob 9 [.ref (bd 0), .ref (bd 1), .ref (bd 2), .ref (bd 3), .ref (bd 4), .ref (bd 5), .ref (bd 6), .int (iI ((nr : Nat) : Int)), .ref (bd 8), .ref (bd 9), .ref (bd 10), .ref (bd 11), .int (iI ((T_o + 1 : Nat) : Int)), .long (lI (fnd + 1)), .int (iI rel), .ref (bd 15), .int (iI sz), .ref (bd 17), .ref (bd 18), .int (iI tm), .ref (bd 20), .ref (bd 21), .int (iI sm), .int (iI dp), .int (iI 0)]))) bd nr g_o (T_o + 1) (kup cs T_o 1) (kup ams T_o 0) (kup ltA ((10 * ((T_o : Nat) : Int)).toNat) x_o) acA mnA rel (fnd + 1) sz rx N_o tm tr sh sg sm dp 0) := ⟨hmdU.1, hmdU.2.1, hmdU.2.2.1, hmdU.2.2.2.1, hmdU.2.2.2.2.1, hmdU.2.2.2.2.2.1, hmdU.2.2.2.2.2.2.1, hmdU.2.2.2.2.2.2.2.1, hmdU.2.2.2.2.2.2.2.2.1, hmdU.2.2.2.2.2.2.2.2.2.1, hmdU.2.2.2.2.2.2.2.2.2.2.1, hmdU.2.2.2.2.2.2.2.2.2.2.2.1, hmdU.2.2.2.2.2.2.2.2.2.2.2.2.1, hmdU.2.2.2.2.2.2.2.2.2.2.2.2.2.1, hmdU.2.2.2.2.2.2.2.2.2.2.2.2.2.2.1, hmdU.2.2.2.2.2.2.2.2.2.2.2.2.2.2.2.1, hmdU.2.2.2.2.2.2.2.2.2.2.2.2.2.2.2.2⟩
        refine k_top (z' := ((T_o : Nat) : Int)) (by omega) ?_
        exact k_iret h_o hr rfl (⟨_, rfl, Or.inl ⟨⟨h5_o, (by omega)⟩, rfl, ⟨⟨_, _, _, _, _, _, _, _, _, _, _, _, hmdZ, hI.text (by omega) h5_o, hrx, hN_o⟩, (fun x_o hx => ((kset_ne (by omega)).trans ((kset_ne (by omega)).trans ((kset_ne (by omega)).trans ((kset_ne (by omega)).trans ((kset_ne (by omega)).trans ((kset_ne (by omega)).trans rfl)))))))⟩⟩⟩) (by omega) (by omega) dX7_addText_97
      · exfalso; omega
    · refine k_iconst h_o dX7_addText_21 ?_
      refine k_goto h_o 26 dX7_addText_22 (by decide) ?_
      refine k_put (fs' := [.ref (bd 0), .ref (bd 1), .ref (bd 2), .ref (bd 3), .ref (bd 4), .ref (bd 5), .ref (bd 6), .int (iI ((nr : Nat) : Int)), .ref (bd 8), .ref (bd 9), .ref (bd 10), .ref (bd 11), .int (iI ((T_o : Nat) : Int)), .long (lI fnd), .int (iI rel), .ref (bd 15), .int (iI sz), .ref (bd 17), .ref (bd 18), .int (iI tm), .ref (bd 20), .ref (bd 21), .int (iI sm), .int (iI dp), .int (iI 2)]) h_o 19 kf_X7_60 kt_X7_24 hmd.1 rfl rfl (Nat.le_of_ble_eq_true rfl) rfl dX7_addText_26 ?_
      refine k_aload_n h_o 0 dX7_addText_29 rfl rfl ?_
      refine k_get h_o 19 kf_X7_60 kset_eq rfl dX7_addText_30 ?_
      refine k_ifle h_o 38 (by decide) dX7_addText_33 (by decide) (fun h33_o => ?_) (fun h33_o => ?_)
      · exfalso; omega
      · refine k_iconst h_o dX7_addText_36 ?_
        have hmdZ : (kMd ((kset w_o 19 (bd 25) (ob 9 [.ref (bd 0), .ref (bd 1), .ref (bd 2), .ref (bd 3), .ref (bd 4), .ref (bd 5), .ref (bd 6), .int (iI ((nr : Nat) : Int)), .ref (bd 8), .ref (bd 9), .ref (bd 10), .ref (bd 11), .int (iI ((T_o : Nat) : Int)), .long (lI fnd), .int (iI rel), .ref (bd 15), .int (iI sz), .ref (bd 17), .ref (bd 18), .int (iI tm), .ref (bd 20), .ref (bd 21), .int (iI sm), .int (iI dp), .int (iI 2)]))) bd nr g_o T_o cs ams ltA acA mnA rel fnd sz rx N_o tm tr sh sg sm dp 2) := ⟨kset_eq, ((kset_ne (by decide)).trans hmd.2.1), ((kset_ne (by decide)).trans hmd.2.2.1), ((kset_ne (by decide)).trans hmd.2.2.2.1), ((kset_ne (by decide)).trans hmd.2.2.2.2.1), ((kset_ne (by decide)).trans hmd.2.2.2.2.2.1), ((kset_ne (by decide)).trans hmd.2.2.2.2.2.2.1), ((kset_ne (by decide)).trans hmd.2.2.2.2.2.2.2.1), ((kset_ne (by decide)).trans hmd.2.2.2.2.2.2.2.2.1), ((kset_ne (by decide)).trans hmd.2.2.2.2.2.2.2.2.2.1), ((kset_ne (by decide)).trans hmd.2.2.2.2.2.2.2.2.2.2.1), ((kset_ne (by decide)).trans hmd.2.2.2.2.2.2.2.2.2.2.2.1), ((kset_ne (by decide)).trans hmd.2.2.2.2.2.2.2.2.2.2.2.2.1), ((kset_ne (by decide)).trans hmd.2.2.2.2.2.2.2.2.2.2.2.2.2.1), ((kset_ne (by decide)).trans hmd.2.2.2.2.2.2.2.2.2.2.2.2.2.2.1), ((kset_ne (by decide)).trans hmd.2.2.2.2.2.2.2.2.2.2.2.2.2.2.2.1), ((kset_ne (by decide)).trans hmd.2.2.2.2.2.2.2.2.2.2.2.2.2.2.2.2)⟩
        exact k_iret h_o hr rfl (⟨_, rfl, Or.inr (Or.inr ⟨⟨h5_o, (by omega)⟩, ⟨⟨_, _, _, _, _, _, _, _, _, _, _, _, hmdZ, hI, hrx, hN_o⟩, (fun x_o hx => ((kset_ne (by omega)).trans rfl))⟩⟩)⟩) (by omega) (by omega) dX7_addText_37
  · refine k_iconst h_o dX7_addText_8 ?_
    refine k_goto h_o 26 dX7_addText_9 (by decide) ?_
    refine k_put (fs' := [.ref (bd 0), .ref (bd 1), .ref (bd 2), .ref (bd 3), .ref (bd 4), .ref (bd 5), .ref (bd 6), .int (iI ((nr : Nat) : Int)), .ref (bd 8), .ref (bd 9), .ref (bd 10), .ref (bd 11), .int (iI ((T_o : Nat) : Int)), .long (lI fnd), .int (iI rel), .ref (bd 15), .int (iI sz), .ref (bd 17), .ref (bd 18), .int (iI tm), .ref (bd 20), .ref (bd 21), .int (iI sm), .int (iI dp), .int (iI 1)]) h_o 19 kf_X7_60 kt_X7_24 hmd.1 rfl rfl (Nat.le_of_ble_eq_true rfl) rfl dX7_addText_26 ?_
    refine k_aload_n h_o 0 dX7_addText_29 rfl rfl ?_
    refine k_get h_o 19 kf_X7_60 kset_eq rfl dX7_addText_30 ?_
    refine k_ifle h_o 38 (by decide) dX7_addText_33 (by decide) (fun h33_o => ?_) (fun h33_o => ?_)
    · exfalso; omega
    · refine k_iconst h_o dX7_addText_36 ?_
      have hmdZ : (kMd ((kset w_o 19 (bd 25) (ob 9 [.ref (bd 0), .ref (bd 1), .ref (bd 2), .ref (bd 3), .ref (bd 4), .ref (bd 5), .ref (bd 6), .int (iI ((nr : Nat) : Int)), .ref (bd 8), .ref (bd 9), .ref (bd 10), .ref (bd 11), .int (iI ((T_o : Nat) : Int)), .long (lI fnd), .int (iI rel), .ref (bd 15), .int (iI sz), .ref (bd 17), .ref (bd 18), .int (iI tm), .ref (bd 20), .ref (bd 21), .int (iI sm), .int (iI dp), .int (iI 1)]))) bd nr g_o T_o cs ams ltA acA mnA rel fnd sz rx N_o tm tr sh sg sm dp 1) := ⟨kset_eq, ((kset_ne (by decide)).trans hmd.2.1), ((kset_ne (by decide)).trans hmd.2.2.1), ((kset_ne (by decide)).trans hmd.2.2.2.1), ((kset_ne (by decide)).trans hmd.2.2.2.2.1), ((kset_ne (by decide)).trans hmd.2.2.2.2.2.1), ((kset_ne (by decide)).trans hmd.2.2.2.2.2.2.1), ((kset_ne (by decide)).trans hmd.2.2.2.2.2.2.2.1), ((kset_ne (by decide)).trans hmd.2.2.2.2.2.2.2.2.1), ((kset_ne (by decide)).trans hmd.2.2.2.2.2.2.2.2.2.1), ((kset_ne (by decide)).trans hmd.2.2.2.2.2.2.2.2.2.2.1), ((kset_ne (by decide)).trans hmd.2.2.2.2.2.2.2.2.2.2.2.1), ((kset_ne (by decide)).trans hmd.2.2.2.2.2.2.2.2.2.2.2.2.1), ((kset_ne (by decide)).trans hmd.2.2.2.2.2.2.2.2.2.2.2.2.2.1), ((kset_ne (by decide)).trans hmd.2.2.2.2.2.2.2.2.2.2.2.2.2.2.1), ((kset_ne (by decide)).trans hmd.2.2.2.2.2.2.2.2.2.2.2.2.2.2.2.1), ((kset_ne (by decide)).trans hmd.2.2.2.2.2.2.2.2.2.2.2.2.2.2.2.2)⟩
      exact k_iret h_o hr rfl (⟨_, rfl, Or.inr (Or.inl ⟨h5_o, ⟨⟨_, _, _, _, _, _, _, _, _, _, _, _, hmdZ, hI, hrx, hN_o⟩, (fun x_o hx => ((kset_ne (by omega)).trans rfl))⟩⟩)⟩) (by omega) (by omega) dX7_addText_37

set_option maxHeartbeats 4000000 in
set_option maxRecDepth 100000 in
theorem c_X7_addLetter {E_o : kE} {l_o : Launch} (hl0 : l_o.stackTraces = false) {w_o : kW} {bd : Nat → Nat} {nr : Nat} {g_o : Nat → Nat → Int} {T_o : Nat} {lts : Nat → Nat → Int} {cs : Nat → Int} {acs : Nat → Nat → Int} {ams : Nat → Int} {rel fnd th : Int} {x_o v_o : Int} (hst : kMu w_o bd nr g_o T_o lts cs acs ams rel fnd th) (hx : -2147483648 ≤ x_o ∧ x_o < 2147483648) (hv : -2147483648 ≤ v_o ∧ v_o < 2147483648) : kM E_o l_o yX7_addLetter (.code yX7_addLetter cX7_addLetter 3 (some .int) :: kAL) { frames := 7, cells := 0, slots := 0, locals := 168 } 0 0 [.ref (bd 25), .int (iI x_o), .int (iI v_o)] w_o (pI (fun z_o w2_o => (((0 ≤ x_o ∧ x_o < ((T_o : Nat) : Int)) ∧ m_isL v_o ∧ cs x_o.toNat < 10) ∧ ((m_TT g_o nr (kup (lts x_o.toNat) (cs x_o.toNat).toNat v_o) 10 0 (cs x_o.toNat + 1 - 1) : Nat) : Int) = z_o ∧ kMv w_o w2_o bd nr g_o T_o (kup lts x_o.toNat (kup (lts x_o.toNat) (cs x_o.toNat).toNat v_o)) (kup cs x_o.toNat (cs x_o.toNat + 1)) acs ams rel (fnd + (cs x_o.toNat + 1)) 0) ∨ (¬ (0 ≤ x_o ∧ x_o < ((T_o : Nat) : Int)) ∧ kMv w_o w2_o bd nr g_o T_o lts cs acs ams rel fnd 1) ∨ (((0 ≤ x_o ∧ x_o < ((T_o : Nat) : Int)) ∧ ¬ m_isL v_o) ∧ kMv w_o w2_o bd nr g_o T_o lts cs acs ams rel fnd 2) ∨ (((0 ≤ x_o ∧ x_o < ((T_o : Nat) : Int)) ∧ m_isL v_o ∧ cs x_o.toNat = 10) ∧ kMv w_o w2_o bd nr g_o T_o lts cs acs ams rel fnd 3))) := by
  refine kM_of hl0 (by decide +kernel) (Nat.le_of_ble_eq_true rfl) ?_
  intro X_o hXl h_o hr hin
  subst hXl
  obtain ⟨ltA, acA, mnA, sz, rx, N_o, tm, tr, sh, sg, sm, dp, hmd, hI, hrx, hN_o⟩ := hst
  obtain ⟨hwf, hnr, hT6, hmn, hg0, htx⟩ := id hI
  show kG E_o X_o 3 0 0 w_o 0 [(0, .ref (bd 25)), (1, .int (iI x_o)), (2, .int (iI v_o))] []
  refine k_aload_n h_o 0 dX7_addLetter_0 rfl rfl ?_
  refine k_aload_n h_o 0 dX7_addLetter_1 rfl rfl ?_
  refine k_iload_n h_o 1 dX7_addLetter_2 rfl rfl ?_
  refine k_callV (As := [.int (iI x_o)]) (rest := [.ref (bd 25)]) h_o mX7_isText kq_5_20 (c_X7_isText hl0 hmd hT6 (by omega)) 19 hmd.1 rfl rfl rfl (Nat.le_of_ble_eq_true rfl) ⟨rfl, rfl, ⟨(Nat.le_of_ble_eq_true rfl), (Nat.le_of_ble_eq_true rfl)⟩, ⟨(Nat.le_of_ble_eq_true rfl), (Nat.le_of_ble_eq_true rfl)⟩⟩ dX7_addLetter_3 (kcI fun z3_o w3_o hp => ?_)
  obtain ⟨rfl, rfl⟩ := hp
  refine k_ifBne h_o 13 dX7_addLetter_6 (by decide) (fun h6_o => ?_) (fun h6_o => ?_)
  · refine k_iload_n h_o 2 dX7_addLetter_13 rfl rfl ?_
    refine k_callS (As := [.int (iI v_o)]) (rest := [.ref (bd 25)]) h_o mX7_isLetter kq_4_222 (c_X7_isLetter hl0 (by omega)) rfl rfl (Nat.le_of_ble_eq_true rfl) ⟨rfl, rfl, ⟨(Nat.le_of_ble_eq_true rfl), (Nat.le_of_ble_eq_true rfl)⟩, ⟨(Nat.le_of_ble_eq_true rfl), (Nat.le_of_ble_eq_true rfl)⟩⟩ dX7_addLetter_14 (kcI fun z14_o w14_o hp => ?_)
    obtain ⟨rfl, rfl⟩ := hp
    refine k_ifBne h_o 24 dX7_addLetter_17 (by decide) (fun h17_o => ?_) (fun h17_o => ?_)
    · obtain ⟨hlx, hcx, hax, hacx, hltx, hacAx⟩ := htx x_o.toNat (by omega)
      refine k_aload_n h_o 0 dX7_addLetter_24 rfl rfl ?_
      refine k_get h_o 19 kf_X7_35 hmd.1 rfl dX7_addLetter_25 ?_
      refine k_iload_n h_o 1 dX7_addLetter_28 rfl rfl ?_
      refine k_iald h_o 29 hmd.2.2.2.2.2.2.2.2.2.1 (by omega) (by decide) dX7_addLetter_29 ?_
      refine k_bipush h_o dX7_addLetter_30 (by decide) ?_
      refine k_icmp_ne h_o 39 (by omega) (by decide) dX7_addLetter_32 (by decide) (fun h32_o => ?_) (fun h32_o => ?_)
      · refine k_iconst h_o dX7_addLetter_39 ?_
        refine k_put (fs' := [.ref (bd 0), .ref (bd 1), .ref (bd 2), .ref (bd 3), .ref (bd 4), .ref (bd 5), .ref (bd 6), .int (iI ((nr : Nat) : Int)), .ref (bd 8), .ref (bd 9), .ref (bd 10), .ref (bd 11), .int (iI ((T_o : Nat) : Int)), .long (lI fnd), .int (iI rel), .ref (bd 15), .int (iI sz), .ref (bd 17), .ref (bd 18), .int (iI tm), .ref (bd 20), .ref (bd 21), .int (iI sm), .int (iI dp), .int (iI 0)]) h_o 19 kf_X7_60 kt_X7_24 hmd.1 rfl rfl (Nat.le_of_ble_eq_true rfl) rfl dX7_addLetter_40 ?_
        refine k_aload_n h_o 0 dX7_addLetter_43 rfl rfl ?_
        refine k_get h_o 19 kf_X7_60 kset_eq rfl dX7_addLetter_44 ?_
        refine k_ifle h_o 52 (by decide) dX7_addLetter_47 (by decide) (fun h47_o => ?_) (fun h47_o => ?_)
        · refine k_aload_n h_o 0 dX7_addLetter_52 rfl rfl ?_
          refine k_get h_o 19 kf_X7_32 kset_eq rfl dX7_addLetter_53 ?_
          refine k_bipush h_o dX7_addLetter_56 (by decide) ?_
          refine k_iload_n h_o 1 dX7_addLetter_58 rfl rfl ?_
          refine k_imul h_o dX7_addLetter_59 ?_
          refine k_aload_n h_o 0 dX7_addLetter_60 rfl rfl ?_
          refine k_get h_o 19 kf_X7_35 kset_eq rfl dX7_addLetter_61 ?_
          refine k_iload_n h_o 1 dX7_addLetter_64 rfl rfl ?_
          refine k_iald h_o 29 ((kset_ne (by decide)).trans hmd.2.2.2.2.2.2.2.2.2.1) (by omega) (by decide) dX7_addLetter_65 ?_
          refine k_iadd h_o dX7_addLetter_66 ?_
          refine k_iload_n h_o 2 dX7_addLetter_67 rfl rfl ?_
          refine k_iast h_o 28 ((kset_ne (by decide)).trans hmd.2.2.2.2.2.2.2.2.1) (by omega) (by decide) dX7_addLetter_68 ?_
          refine k_aload_n h_o 0 dX7_addLetter_69 rfl rfl ?_
          refine k_get h_o 19 kf_X7_35 ((kset_ne (by decide)).trans kset_eq) rfl dX7_addLetter_70 ?_
          refine k_iload_n h_o 1 dX7_addLetter_73 rfl rfl ?_
          refine k_dup2 h_o dX7_addLetter_74 rfl rfl ?_
          refine k_iald h_o 29 ((kset_ne (by decide)).trans ((kset_ne (by decide)).trans hmd.2.2.2.2.2.2.2.2.2.1)) (by omega) (by decide) dX7_addLetter_75 ?_
          refine k_iconst h_o dX7_addLetter_76 ?_
          refine k_iadd h_o dX7_addLetter_77 ?_
          refine k_iast h_o 29 ((kset_ne (by decide)).trans ((kset_ne (by decide)).trans hmd.2.2.2.2.2.2.2.2.2.1)) (by omega) (by decide) dX7_addLetter_78 ?_
          refine k_aload_n h_o 0 dX7_addLetter_79 rfl rfl ?_
          refine k_dup h_o dX7_addLetter_80 rfl ?_
          refine k_get h_o 19 kf_X7_137 ((kset_ne (by decide)).trans ((kset_ne (by decide)).trans kset_eq)) rfl dX7_addLetter_81 ?_
          refine k_aload_n h_o 0 dX7_addLetter_84 rfl rfl ?_
          refine k_get h_o 19 kf_X7_35 ((kset_ne (by decide)).trans ((kset_ne (by decide)).trans kset_eq)) rfl dX7_addLetter_85 ?_
          refine k_iload_n h_o 1 dX7_addLetter_88 rfl rfl ?_
          refine k_iald h_o 29 kset_eq (by omega) (by decide) dX7_addLetter_89 ?_
          refine k_top (z' := cs x_o.toNat + 1) (kup_eq) ?_
          refine k_i2l h_o (by omega) dX7_addLetter_90 ?_
          refine k_ladd h_o dX7_addLetter_91 ?_
          refine k_put (fs' := [.ref (bd 0), .ref (bd 1), .ref (bd 2), .ref (bd 3), .ref (bd 4), .ref (bd 5), .ref (bd 6), .int (iI ((nr : Nat) : Int)), .ref (bd 8), .ref (bd 9), .ref (bd 10), .ref (bd 11), .int (iI ((T_o : Nat) : Int)), .long (lI (fnd + (cs x_o.toNat + 1))), .int (iI rel), .ref (bd 15), .int (iI sz), .ref (bd 17), .ref (bd 18), .int (iI tm), .ref (bd 20), .ref (bd 21), .int (iI sm), .int (iI dp), .int (iI 0)]) h_o 19 kf_X7_137 kt_X7_13 ((kset_ne (by decide)).trans ((kset_ne (by decide)).trans kset_eq)) rfl rfl (Nat.le_of_ble_eq_true rfl) rfl dX7_addLetter_92 ?_
          have hmdU : (kMd ((kset (kset (kset (kset w_o 19 (bd 25) (ob 9 [.ref (bd 0), .ref (bd 1), .ref (bd 2), .ref (bd 3), .ref (bd 4), .ref (bd 5), .ref (bd 6), .int (iI ((nr : Nat) : Int)), .ref (bd 8), .ref (bd 9), .ref (bd 10), .ref (bd 11), .int (iI ((T_o : Nat) : Int)), .long (lI fnd), .int (iI rel), .ref (bd 15), .int (iI sz), .ref (bd 17), .ref (bd 18), .int (iI tm), .ref (bd 20), .ref (bd 21), .int (iI sm), .int (iI dp), .int (iI 0)])) 28 (bd 8) (ai 60 (kup ltA (((10 * x_o) + (cs ((x_o).toNat))).toNat) v_o))) 29 (bd 9) (ai 6 (kup cs x_o.toNat ((cs ((x_o).toNat)) + 1)))) 19 (bd 25) (ob 9 [.ref (bd 0), .ref (bd 1), .ref (bd 2), .ref (bd 3), .ref (bd 4), .ref (bd 5), .ref (bd 6), .int (iI ((nr : Nat) : Int)), .ref (bd 8), .ref (bd 9), .ref (bd 10), .ref (bd 11), .int (iI ((T_o : Nat) : Int)), .long (lI (fnd + (cs x_o.toNat + 1))), .int (iI rel), .ref (bd 15), .int (iI sz), .ref (bd 17), .ref (bd 18), .int (iI tm), .ref (bd 20), .ref (bd 21), .int (iI sm), .int (iI dp), .int (iI 0)]))) bd nr g_o T_o (kup cs x_o.toNat ((cs ((x_o).toNat)) + 1)) ams (kup ltA (((10 * x_o) + (cs ((x_o).toNat))).toNat) v_o) acA mnA rel (fnd + (cs x_o.toNat + 1)) sz rx N_o tm tr sh sg sm dp 0) := ⟨kset_eq, ((kset_ne (by decide)).trans ((kset_ne (by decide)).trans ((kset_ne (by decide)).trans ((kset_ne (by decide)).trans hmd.2.1)))), ((kset_ne (by decide)).trans ((kset_ne (by decide)).trans ((kset_ne (by decide)).trans ((kset_ne (by decide)).trans hmd.2.2.1)))), ((kset_ne (by decide)).trans ((kset_ne (by decide)).trans ((kset_ne (by decide)).trans ((kset_ne (by decide)).trans hmd.2.2.2.1)))), ((kset_ne (by decide)).trans ((kset_ne (by decide)).trans ((kset_ne (by decide)).trans ((kset_ne (by decide)).trans hmd.2.2.2.2.1)))), ((kset_ne (by decide)).trans ((kset_ne (by decide)).trans ((kset_ne (by decide)).trans ((kset_ne (by decide)).trans hmd.2.2.2.2.2.1)))), ((kset_ne (by decide)).trans ((kset_ne (by decide)).trans ((kset_ne (by decide)).trans ((kset_ne (by decide)).trans hmd.2.2.2.2.2.2.1)))), ((kset_ne (by decide)).trans ((kset_ne (by decide)).trans ((kset_ne (by decide)).trans ((kset_ne (by decide)).trans hmd.2.2.2.2.2.2.2.1)))), ((kset_ne (by decide)).trans ((kset_ne (by decide)).trans kset_eq)), ((kset_ne (by decide)).trans kset_eq), ((kset_ne (by decide)).trans ((kset_ne (by decide)).trans ((kset_ne (by decide)).trans ((kset_ne (by decide)).trans hmd.2.2.2.2.2.2.2.2.2.2.1)))), ((kset_ne (by decide)).trans ((kset_ne (by decide)).trans ((kset_ne (by decide)).trans ((kset_ne (by decide)).trans hmd.2.2.2.2.2.2.2.2.2.2.2.1)))), ((kset_ne (by decide)).trans ((kset_ne (by decide)).trans ((kset_ne (by decide)).trans ((kset_ne (by decide)).trans hmd.2.2.2.2.2.2.2.2.2.2.2.2.1)))), ((kset_ne (by decide)).trans ((kset_ne (by decide)).trans ((kset_ne (by decide)).trans ((kset_ne (by decide)).trans hmd.2.2.2.2.2.2.2.2.2.2.2.2.2.1)))), ((kset_ne (by decide)).trans ((kset_ne (by decide)).trans ((kset_ne (by decide)).trans ((kset_ne (by decide)).trans hmd.2.2.2.2.2.2.2.2.2.2.2.2.2.2.1)))), ((kset_ne (by decide)).trans ((kset_ne (by decide)).trans ((kset_ne (by decide)).trans ((kset_ne (by decide)).trans hmd.2.2.2.2.2.2.2.2.2.2.2.2.2.2.2.1)))), ((kset_ne (by decide)).trans ((kset_ne (by decide)).trans ((kset_ne (by decide)).trans ((kset_ne (by decide)).trans hmd.2.2.2.2.2.2.2.2.2.2.2.2.2.2.2.2))))⟩
          have hI8 := hI.lets (X := x_o.toNat) (lA := kup ltA (10 * x_o + cs x_o.toNat).toNat v_o) (L2 := (kup (lts x_o.toNat) (cs x_o.toNat).toNat v_o)) (c2 := cs x_o.toNat + 1) (by omega) (by omega) (kLt_up hlx h17_o) (fun q_o hq => by unfold kup; by_cases e_o : q_o = (cs x_o.toNat).toNat; rw [if_pos (by omega), if_pos e_o]; rw [if_neg (by omega), if_neg e_o]; exact hltx q_o (by omega)) (fun z_o hz => kup_ne (by omega))
          refine k_aload_n h_o 0 dX7_addLetter_95 rfl rfl ?_
          refine k_iload_n h_o 1 dX7_addLetter_96 rfl rfl ?_
          refine k_callV (As := [.int (iI x_o)]) (rest := []) h_o mX7_laysText kq_5_24 (c_X7_laysText hl0 hmdU hI8 hrx hN_o (by omega)) 19 hmdU.1 rfl rfl rfl (Nat.le_of_ble_eq_true rfl) ⟨rfl, rfl, ⟨(Nat.le_of_ble_eq_true rfl), (Nat.le_of_ble_eq_true rfl)⟩, ⟨(Nat.le_of_ble_eq_true rfl), (Nat.le_of_ble_eq_true rfl)⟩⟩ dX7_addLetter_97 (kcI fun z97_o wq37 hp => ?_)
          obtain ⟨rfl, rxq37, Nq37, hmdq37, hrxq37, hrowq37, hNq37, hTrq37, hexq37⟩ := hp
          have hmdZ : (kMd wq37 bd nr g_o T_o (kup cs x_o.toNat ((cs ((x_o).toNat)) + 1)) ams (kup ltA (((10 * x_o) + (cs ((x_o).toNat))).toNat) v_o) acA mnA rel (fnd + (cs x_o.toNat + 1)) ((kup cs x_o.toNat ((cs ((x_o).toNat)) + 1)) x_o.toNat) rxq37 Nq37 tm tr sh sg sm dp 0) := ⟨hmdq37.1, hmdq37.2.1, hmdq37.2.2.1, hmdq37.2.2.2.1, hmdq37.2.2.2.2.1, hmdq37.2.2.2.2.2.1, hmdq37.2.2.2.2.2.2.1, hmdq37.2.2.2.2.2.2.2.1, hmdq37.2.2.2.2.2.2.2.2.1, hmdq37.2.2.2.2.2.2.2.2.2.1, hmdq37.2.2.2.2.2.2.2.2.2.2.1, hmdq37.2.2.2.2.2.2.2.2.2.2.2.1, hmdq37.2.2.2.2.2.2.2.2.2.2.2.2.1, hmdq37.2.2.2.2.2.2.2.2.2.2.2.2.2.1, hmdq37.2.2.2.2.2.2.2.2.2.2.2.2.2.2.1, hmdq37.2.2.2.2.2.2.2.2.2.2.2.2.2.2.2.1, hmdq37.2.2.2.2.2.2.2.2.2.2.2.2.2.2.2.2⟩
          exact k_iret h_o hr rfl (⟨_, rfl, Or.inl ⟨⟨h6_o, h17_o, (by omega)⟩, (by rw [kup_eq, kup_eq]), ⟨⟨_, _, _, _, _, _, _, _, _, _, _, _, hmdZ, hI8, hrxq37, hNq37⟩, (fun x_o hx => ((hexq37 x_o hx).trans ((kset_ne (by omega)).trans ((kset_ne (by omega)).trans ((kset_ne (by omega)).trans ((kset_ne (by omega)).trans rfl))))))⟩⟩⟩) (by omega) (by omega) dX7_addLetter_100
        · exfalso; omega
      · refine k_iconst h_o dX7_addLetter_35 ?_
        refine k_goto h_o 40 dX7_addLetter_36 (by decide) ?_
        refine k_put (fs' := [.ref (bd 0), .ref (bd 1), .ref (bd 2), .ref (bd 3), .ref (bd 4), .ref (bd 5), .ref (bd 6), .int (iI ((nr : Nat) : Int)), .ref (bd 8), .ref (bd 9), .ref (bd 10), .ref (bd 11), .int (iI ((T_o : Nat) : Int)), .long (lI fnd), .int (iI rel), .ref (bd 15), .int (iI sz), .ref (bd 17), .ref (bd 18), .int (iI tm), .ref (bd 20), .ref (bd 21), .int (iI sm), .int (iI dp), .int (iI 3)]) h_o 19 kf_X7_60 kt_X7_24 hmd.1 rfl rfl (Nat.le_of_ble_eq_true rfl) rfl dX7_addLetter_40 ?_
        refine k_aload_n h_o 0 dX7_addLetter_43 rfl rfl ?_
        refine k_get h_o 19 kf_X7_60 kset_eq rfl dX7_addLetter_44 ?_
        refine k_ifle h_o 52 (by decide) dX7_addLetter_47 (by decide) (fun h47_o => ?_) (fun h47_o => ?_)
        · exfalso; omega
        · refine k_iconst h_o dX7_addLetter_50 ?_
          have hmdZ : (kMd ((kset w_o 19 (bd 25) (ob 9 [.ref (bd 0), .ref (bd 1), .ref (bd 2), .ref (bd 3), .ref (bd 4), .ref (bd 5), .ref (bd 6), .int (iI ((nr : Nat) : Int)), .ref (bd 8), .ref (bd 9), .ref (bd 10), .ref (bd 11), .int (iI ((T_o : Nat) : Int)), .long (lI fnd), .int (iI rel), .ref (bd 15), .int (iI sz), .ref (bd 17), .ref (bd 18), .int (iI tm), .ref (bd 20), .ref (bd 21), .int (iI sm), .int (iI dp), .int (iI 3)]))) bd nr g_o T_o cs ams ltA acA mnA rel fnd sz rx N_o tm tr sh sg sm dp 3) := ⟨kset_eq, ((kset_ne (by decide)).trans hmd.2.1), ((kset_ne (by decide)).trans hmd.2.2.1), ((kset_ne (by decide)).trans hmd.2.2.2.1), ((kset_ne (by decide)).trans hmd.2.2.2.2.1), ((kset_ne (by decide)).trans hmd.2.2.2.2.2.1), ((kset_ne (by decide)).trans hmd.2.2.2.2.2.2.1), ((kset_ne (by decide)).trans hmd.2.2.2.2.2.2.2.1), ((kset_ne (by decide)).trans hmd.2.2.2.2.2.2.2.2.1), ((kset_ne (by decide)).trans hmd.2.2.2.2.2.2.2.2.2.1), ((kset_ne (by decide)).trans hmd.2.2.2.2.2.2.2.2.2.2.1), ((kset_ne (by decide)).trans hmd.2.2.2.2.2.2.2.2.2.2.2.1), ((kset_ne (by decide)).trans hmd.2.2.2.2.2.2.2.2.2.2.2.2.1), ((kset_ne (by decide)).trans hmd.2.2.2.2.2.2.2.2.2.2.2.2.2.1), ((kset_ne (by decide)).trans hmd.2.2.2.2.2.2.2.2.2.2.2.2.2.2.1), ((kset_ne (by decide)).trans hmd.2.2.2.2.2.2.2.2.2.2.2.2.2.2.2.1), ((kset_ne (by decide)).trans hmd.2.2.2.2.2.2.2.2.2.2.2.2.2.2.2.2)⟩
          exact k_iret h_o hr rfl (⟨_, rfl, Or.inr (Or.inr (Or.inr ⟨⟨h6_o, h17_o, (by omega)⟩, ⟨⟨_, _, _, _, _, _, _, _, _, _, _, _, hmdZ, hI, hrx, hN_o⟩, (fun x_o hx => ((kset_ne (by omega)).trans rfl))⟩⟩))⟩) (by omega) (by omega) dX7_addLetter_51
    · refine k_iconst h_o dX7_addLetter_20 ?_
      refine k_goto h_o 40 dX7_addLetter_21 (by decide) ?_
      refine k_put (fs' := [.ref (bd 0), .ref (bd 1), .ref (bd 2), .ref (bd 3), .ref (bd 4), .ref (bd 5), .ref (bd 6), .int (iI ((nr : Nat) : Int)), .ref (bd 8), .ref (bd 9), .ref (bd 10), .ref (bd 11), .int (iI ((T_o : Nat) : Int)), .long (lI fnd), .int (iI rel), .ref (bd 15), .int (iI sz), .ref (bd 17), .ref (bd 18), .int (iI tm), .ref (bd 20), .ref (bd 21), .int (iI sm), .int (iI dp), .int (iI 2)]) h_o 19 kf_X7_60 kt_X7_24 hmd.1 rfl rfl (Nat.le_of_ble_eq_true rfl) rfl dX7_addLetter_40 ?_
      refine k_aload_n h_o 0 dX7_addLetter_43 rfl rfl ?_
      refine k_get h_o 19 kf_X7_60 kset_eq rfl dX7_addLetter_44 ?_
      refine k_ifle h_o 52 (by decide) dX7_addLetter_47 (by decide) (fun h47_o => ?_) (fun h47_o => ?_)
      · exfalso; omega
      · refine k_iconst h_o dX7_addLetter_50 ?_
        have hmdZ : (kMd ((kset w_o 19 (bd 25) (ob 9 [.ref (bd 0), .ref (bd 1), .ref (bd 2), .ref (bd 3), .ref (bd 4), .ref (bd 5), .ref (bd 6), .int (iI ((nr : Nat) : Int)), .ref (bd 8), .ref (bd 9), .ref (bd 10), .ref (bd 11), .int (iI ((T_o : Nat) : Int)), .long (lI fnd), .int (iI rel), .ref (bd 15), .int (iI sz), .ref (bd 17), .ref (bd 18), .int (iI tm), .ref (bd 20), .ref (bd 21), .int (iI sm), .int (iI dp), .int (iI 2)]))) bd nr g_o T_o cs ams ltA acA mnA rel fnd sz rx N_o tm tr sh sg sm dp 2) := ⟨kset_eq, ((kset_ne (by decide)).trans hmd.2.1), ((kset_ne (by decide)).trans hmd.2.2.1), ((kset_ne (by decide)).trans hmd.2.2.2.1), ((kset_ne (by decide)).trans hmd.2.2.2.2.1), ((kset_ne (by decide)).trans hmd.2.2.2.2.2.1), ((kset_ne (by decide)).trans hmd.2.2.2.2.2.2.1), ((kset_ne (by decide)).trans hmd.2.2.2.2.2.2.2.1), ((kset_ne (by decide)).trans hmd.2.2.2.2.2.2.2.2.1), ((kset_ne (by decide)).trans hmd.2.2.2.2.2.2.2.2.2.1), ((kset_ne (by decide)).trans hmd.2.2.2.2.2.2.2.2.2.2.1), ((kset_ne (by decide)).trans hmd.2.2.2.2.2.2.2.2.2.2.2.1), ((kset_ne (by decide)).trans hmd.2.2.2.2.2.2.2.2.2.2.2.2.1), ((kset_ne (by decide)).trans hmd.2.2.2.2.2.2.2.2.2.2.2.2.2.1), ((kset_ne (by decide)).trans hmd.2.2.2.2.2.2.2.2.2.2.2.2.2.2.1), ((kset_ne (by decide)).trans hmd.2.2.2.2.2.2.2.2.2.2.2.2.2.2.2.1), ((kset_ne (by decide)).trans hmd.2.2.2.2.2.2.2.2.2.2.2.2.2.2.2.2)⟩
        exact k_iret h_o hr rfl (⟨_, rfl, Or.inr (Or.inr (Or.inl ⟨⟨h6_o, h17_o⟩, ⟨⟨_, _, _, _, _, _, _, _, _, _, _, _, hmdZ, hI, hrx, hN_o⟩, (fun x_o hx => ((kset_ne (by omega)).trans rfl))⟩⟩))⟩) (by omega) (by omega) dX7_addLetter_51
  · refine k_iconst h_o dX7_addLetter_9 ?_
    refine k_goto h_o 40 dX7_addLetter_10 (by decide) ?_
    refine k_put (fs' := [.ref (bd 0), .ref (bd 1), .ref (bd 2), .ref (bd 3), .ref (bd 4), .ref (bd 5), .ref (bd 6), .int (iI ((nr : Nat) : Int)), .ref (bd 8), .ref (bd 9), .ref (bd 10), .ref (bd 11), .int (iI ((T_o : Nat) : Int)), .long (lI fnd), .int (iI rel), .ref (bd 15), .int (iI sz), .ref (bd 17), .ref (bd 18), .int (iI tm), .ref (bd 20), .ref (bd 21), .int (iI sm), .int (iI dp), .int (iI 1)]) h_o 19 kf_X7_60 kt_X7_24 hmd.1 rfl rfl (Nat.le_of_ble_eq_true rfl) rfl dX7_addLetter_40 ?_
    refine k_aload_n h_o 0 dX7_addLetter_43 rfl rfl ?_
    refine k_get h_o 19 kf_X7_60 kset_eq rfl dX7_addLetter_44 ?_
    refine k_ifle h_o 52 (by decide) dX7_addLetter_47 (by decide) (fun h47_o => ?_) (fun h47_o => ?_)
    · exfalso; omega
    · refine k_iconst h_o dX7_addLetter_50 ?_
      have hmdZ : (kMd ((kset w_o 19 (bd 25) (ob 9 [.ref (bd 0), .ref (bd 1), .ref (bd 2), .ref (bd 3), .ref (bd 4), .ref (bd 5), .ref (bd 6), .int (iI ((nr : Nat) : Int)), .ref (bd 8), .ref (bd 9), .ref (bd 10), .ref (bd 11), .int (iI ((T_o : Nat) : Int)), .long (lI fnd), .int (iI rel), .ref (bd 15), .int (iI sz), .ref (bd 17), .ref (bd 18), .int (iI tm), .ref (bd 20), .ref (bd 21), .int (iI sm), .int (iI dp), .int (iI 1)]))) bd nr g_o T_o cs ams ltA acA mnA rel fnd sz rx N_o tm tr sh sg sm dp 1) := ⟨kset_eq, ((kset_ne (by decide)).trans hmd.2.1), ((kset_ne (by decide)).trans hmd.2.2.1), ((kset_ne (by decide)).trans hmd.2.2.2.1), ((kset_ne (by decide)).trans hmd.2.2.2.2.1), ((kset_ne (by decide)).trans hmd.2.2.2.2.2.1), ((kset_ne (by decide)).trans hmd.2.2.2.2.2.2.1), ((kset_ne (by decide)).trans hmd.2.2.2.2.2.2.2.1), ((kset_ne (by decide)).trans hmd.2.2.2.2.2.2.2.2.1), ((kset_ne (by decide)).trans hmd.2.2.2.2.2.2.2.2.2.1), ((kset_ne (by decide)).trans hmd.2.2.2.2.2.2.2.2.2.2.1), ((kset_ne (by decide)).trans hmd.2.2.2.2.2.2.2.2.2.2.2.1), ((kset_ne (by decide)).trans hmd.2.2.2.2.2.2.2.2.2.2.2.2.1), ((kset_ne (by decide)).trans hmd.2.2.2.2.2.2.2.2.2.2.2.2.2.1), ((kset_ne (by decide)).trans hmd.2.2.2.2.2.2.2.2.2.2.2.2.2.2.1), ((kset_ne (by decide)).trans hmd.2.2.2.2.2.2.2.2.2.2.2.2.2.2.2.1), ((kset_ne (by decide)).trans hmd.2.2.2.2.2.2.2.2.2.2.2.2.2.2.2.2)⟩
      exact k_iret h_o hr rfl (⟨_, rfl, Or.inr (Or.inl ⟨h6_o, ⟨⟨_, _, _, _, _, _, _, _, _, _, _, _, hmdZ, hI, hrx, hN_o⟩, (fun x_o hx => ((kset_ne (by omega)).trans rfl))⟩⟩)⟩) (by omega) (by omega) dX7_addLetter_51

set_option maxHeartbeats 4000000 in
set_option maxRecDepth 100000 in
theorem c_X7_replace {E_o : kE} {l_o : Launch} (hl0 : l_o.stackTraces = false) {w_o : kW} {bd : Nat → Nat} {nr : Nat} {g_o : Nat → Nat → Int} {T_o : Nat} {lts : Nat → Nat → Int} {cs : Nat → Int} {acs : Nat → Nat → Int} {ams : Nat → Int} {rel fnd th : Int} {x_o p_o v_o : Int} (hst : kMu w_o bd nr g_o T_o lts cs acs ams rel fnd th) (hx : -2147483648 ≤ x_o ∧ x_o < 2147483648) (hp : -2147483648 ≤ p_o ∧ p_o < 2147483648) (hv : -2147483648 ≤ v_o ∧ v_o < 2147483648) : kM E_o l_o yX7_replace (.code yX7_replace cX7_replace 4 (some .int) :: kAL) { frames := 7, cells := 0, slots := 0, locals := 168 } 0 0 [.ref (bd 25), .int (iI x_o), .int (iI p_o), .int (iI v_o)] w_o (pI (fun z_o w2_o => ((((0 ≤ x_o ∧ x_o < ((T_o : Nat) : Int)) ∧ 0 ≤ p_o ∧ p_o < cs x_o.toNat) ∧ m_isL v_o) ∧ ((m_TT g_o nr (kup (lts x_o.toNat) p_o.toNat v_o) 10 0 (cs x_o.toNat - 1) : Nat) : Int) = z_o ∧ kMv w_o w2_o bd nr g_o T_o (kup lts x_o.toNat (kup (lts x_o.toNat) p_o.toNat v_o)) cs acs ams rel (fnd + (p_o + 1) * (cs x_o.toNat - p_o)) 0) ∨ (¬ ((0 ≤ x_o ∧ x_o < ((T_o : Nat) : Int)) ∧ 0 ≤ p_o ∧ p_o < cs x_o.toNat) ∧ kMv w_o w2_o bd nr g_o T_o lts cs acs ams rel fnd 1) ∨ ((((0 ≤ x_o ∧ x_o < ((T_o : Nat) : Int)) ∧ 0 ≤ p_o ∧ p_o < cs x_o.toNat) ∧ ¬ m_isL v_o) ∧ kMv w_o w2_o bd nr g_o T_o lts cs acs ams rel fnd 2))) := by
  refine kM_of hl0 (by decide +kernel) (Nat.le_of_ble_eq_true rfl) ?_
  intro X_o hXl h_o hr hin
  subst hXl
  obtain ⟨ltA, acA, mnA, sz, rx, N_o, tm, tr, sh, sg, sm, dp, hmd, hI, hrx, hN_o⟩ := hst
  obtain ⟨hwf, hnr, hT6, hmn, hg0, htx⟩ := id hI
  show kG E_o X_o 4 0 0 w_o 0 [(0, .ref (bd 25)), (1, .int (iI x_o)), (2, .int (iI p_o)), (3, .int (iI v_o))] []
  refine k_aload_n h_o 0 dX7_replace_0 rfl rfl ?_
  refine k_aload_n h_o 0 dX7_replace_1 rfl rfl ?_
  refine k_iload_n h_o 1 dX7_replace_2 rfl rfl ?_
  refine k_iload_n h_o 2 dX7_replace_3 rfl rfl ?_
  refine k_callV (As := [.int (iI x_o), .int (iI p_o)]) (rest := [.ref (bd 25)]) h_o mX7_isPlace kq_5_51 (c_X7_isPlace hl0 hmd hI (by omega) (by omega)) 19 hmd.1 rfl rfl rfl (Nat.le_of_ble_eq_true rfl) ⟨rfl, rfl, ⟨(Nat.le_of_ble_eq_true rfl), (Nat.le_of_ble_eq_true rfl)⟩, ⟨(Nat.le_of_ble_eq_true rfl), (Nat.le_of_ble_eq_true rfl)⟩⟩ dX7_replace_4 (kcI fun z4_o w4_o hp => ?_)
  obtain ⟨rfl, rfl⟩ := hp
  refine k_ifBne h_o 14 dX7_replace_7 (by decide) (fun h7_o => ?_) (fun h7_o => ?_)
  · refine k_iload_n h_o 3 dX7_replace_14 rfl rfl ?_
    refine k_callS (As := [.int (iI v_o)]) (rest := [.ref (bd 25)]) h_o mX7_isLetter kq_4_222 (c_X7_isLetter hl0 (by omega)) rfl rfl (Nat.le_of_ble_eq_true rfl) ⟨rfl, rfl, ⟨(Nat.le_of_ble_eq_true rfl), (Nat.le_of_ble_eq_true rfl)⟩, ⟨(Nat.le_of_ble_eq_true rfl), (Nat.le_of_ble_eq_true rfl)⟩⟩ dX7_replace_15 (kcI fun z15_o w15_o hp => ?_)
    obtain ⟨rfl, rfl⟩ := hp
    refine k_ifBne h_o 25 dX7_replace_18 (by decide) (fun h18_o => ?_) (fun h18_o => ?_)
    · refine k_iconst h_o dX7_replace_25 ?_
      refine k_put (fs' := [.ref (bd 0), .ref (bd 1), .ref (bd 2), .ref (bd 3), .ref (bd 4), .ref (bd 5), .ref (bd 6), .int (iI ((nr : Nat) : Int)), .ref (bd 8), .ref (bd 9), .ref (bd 10), .ref (bd 11), .int (iI ((T_o : Nat) : Int)), .long (lI fnd), .int (iI rel), .ref (bd 15), .int (iI sz), .ref (bd 17), .ref (bd 18), .int (iI tm), .ref (bd 20), .ref (bd 21), .int (iI sm), .int (iI dp), .int (iI 0)]) h_o 19 kf_X7_60 kt_X7_24 hmd.1 rfl rfl (Nat.le_of_ble_eq_true rfl) rfl dX7_replace_26 ?_
      refine k_aload_n h_o 0 dX7_replace_29 rfl rfl ?_
      refine k_get h_o 19 kf_X7_60 kset_eq rfl dX7_replace_30 ?_
      refine k_ifle h_o 38 (by decide) dX7_replace_33 (by decide) (fun h33_o => ?_) (fun h33_o => ?_)
      · obtain ⟨hlx, hcx, hax, hacx, hltx, hacAx⟩ := htx x_o.toNat (by omega)
        have hpc := m_pc (p := p_o) (c := cs x_o.toNat) h7_o.2 hcx.2
        refine k_aload_n h_o 0 dX7_replace_38 rfl rfl ?_
        refine k_get h_o 19 kf_X7_32 kset_eq rfl dX7_replace_39 ?_
        refine k_bipush h_o dX7_replace_42 (by decide) ?_
        refine k_iload_n h_o 1 dX7_replace_44 rfl rfl ?_
        refine k_imul h_o dX7_replace_45 ?_
        refine k_iload_n h_o 2 dX7_replace_46 rfl rfl ?_
        refine k_iadd h_o dX7_replace_47 ?_
        refine k_iload_n h_o 3 dX7_replace_48 rfl rfl ?_
        refine k_iast h_o 28 ((kset_ne (by decide)).trans hmd.2.2.2.2.2.2.2.2.1) (by omega) (by decide) dX7_replace_49 ?_
        refine k_aload_n h_o 0 dX7_replace_50 rfl rfl ?_
        refine k_dup h_o dX7_replace_51 rfl ?_
        refine k_get h_o 19 kf_X7_137 ((kset_ne (by decide)).trans kset_eq) rfl dX7_replace_52 ?_
        refine k_iload_n h_o 2 dX7_replace_55 rfl rfl ?_
        refine k_iconst h_o dX7_replace_56 ?_
        refine k_iadd h_o dX7_replace_57 ?_
        refine k_aload_n h_o 0 dX7_replace_58 rfl rfl ?_
        refine k_get h_o 19 kf_X7_35 ((kset_ne (by decide)).trans kset_eq) rfl dX7_replace_59 ?_
        refine k_iload_n h_o 1 dX7_replace_62 rfl rfl ?_
        refine k_iald h_o 29 ((kset_ne (by decide)).trans ((kset_ne (by decide)).trans hmd.2.2.2.2.2.2.2.2.2.1)) (by omega) (by decide) dX7_replace_63 ?_
        refine k_iload_n h_o 2 dX7_replace_64 rfl rfl ?_
        refine k_isub h_o dX7_replace_65 ?_
        refine k_imul h_o dX7_replace_66 ?_
        have hpcr : -2147483648 ≤ (p_o + 1) * (cs x_o.toNat - p_o) ∧ (p_o + 1) * (cs x_o.toNat - p_o) < 2147483648 := by omega
        refine k_i2l h_o hpcr dX7_replace_67 ?_
        refine k_ladd h_o dX7_replace_68 ?_
        refine k_put (fs' := [.ref (bd 0), .ref (bd 1), .ref (bd 2), .ref (bd 3), .ref (bd 4), .ref (bd 5), .ref (bd 6), .int (iI ((nr : Nat) : Int)), .ref (bd 8), .ref (bd 9), .ref (bd 10), .ref (bd 11), .int (iI ((T_o : Nat) : Int)), .long (lI (fnd + ((p_o + 1) * ((cs ((x_o).toNat)) - p_o)))), .int (iI rel), .ref (bd 15), .int (iI sz), .ref (bd 17), .ref (bd 18), .int (iI tm), .ref (bd 20), .ref (bd 21), .int (iI sm), .int (iI dp), .int (iI 0)]) h_o 19 kf_X7_137 kt_X7_13 ((kset_ne (by decide)).trans kset_eq) rfl rfl (Nat.le_of_ble_eq_true rfl) rfl dX7_replace_69 ?_
        have hmdU : (kMd ((kset (kset (kset w_o 19 (bd 25) (ob 9 [.ref (bd 0), .ref (bd 1), .ref (bd 2), .ref (bd 3), .ref (bd 4), .ref (bd 5), .ref (bd 6), .int (iI ((nr : Nat) : Int)), .ref (bd 8), .ref (bd 9), .ref (bd 10), .ref (bd 11), .int (iI ((T_o : Nat) : Int)), .long (lI fnd), .int (iI rel), .ref (bd 15), .int (iI sz), .ref (bd 17), .ref (bd 18), .int (iI tm), .ref (bd 20), .ref (bd 21), .int (iI sm), .int (iI dp), .int (iI 0)])) 28 (bd 8) (ai 60 (kup ltA (((10 * x_o) + p_o).toNat) v_o))) 19 (bd 25) (ob 9 [.ref (bd 0), .ref (bd 1), .ref (bd 2), .ref (bd 3), .ref (bd 4), .ref (bd 5), .ref (bd 6), .int (iI ((nr : Nat) : Int)), .ref (bd 8), .ref (bd 9), .ref (bd 10), .ref (bd 11), .int (iI ((T_o : Nat) : Int)), .long (lI (fnd + ((p_o + 1) * ((cs ((x_o).toNat)) - p_o)))), .int (iI rel), .ref (bd 15), .int (iI sz), .ref (bd 17), .ref (bd 18), .int (iI tm), .ref (bd 20), .ref (bd 21), .int (iI sm), .int (iI dp), .int (iI 0)]))) bd nr g_o T_o cs ams (kup ltA (((10 * x_o) + p_o).toNat) v_o) acA mnA rel (fnd + ((p_o + 1) * ((cs ((x_o).toNat)) - p_o))) sz rx N_o tm tr sh sg sm dp 0) := ⟨kset_eq, ((kset_ne (by decide)).trans ((kset_ne (by decide)).trans ((kset_ne (by decide)).trans hmd.2.1))), ((kset_ne (by decide)).trans ((kset_ne (by decide)).trans ((kset_ne (by decide)).trans hmd.2.2.1))), ((kset_ne (by decide)).trans ((kset_ne (by decide)).trans ((kset_ne (by decide)).trans hmd.2.2.2.1))), ((kset_ne (by decide)).trans ((kset_ne (by decide)).trans ((kset_ne (by decide)).trans hmd.2.2.2.2.1))), ((kset_ne (by decide)).trans ((kset_ne (by decide)).trans ((kset_ne (by decide)).trans hmd.2.2.2.2.2.1))), ((kset_ne (by decide)).trans ((kset_ne (by decide)).trans ((kset_ne (by decide)).trans hmd.2.2.2.2.2.2.1))), ((kset_ne (by decide)).trans ((kset_ne (by decide)).trans ((kset_ne (by decide)).trans hmd.2.2.2.2.2.2.2.1))), ((kset_ne (by decide)).trans kset_eq), ((kset_ne (by decide)).trans ((kset_ne (by decide)).trans ((kset_ne (by decide)).trans hmd.2.2.2.2.2.2.2.2.2.1))), ((kset_ne (by decide)).trans ((kset_ne (by decide)).trans ((kset_ne (by decide)).trans hmd.2.2.2.2.2.2.2.2.2.2.1))), ((kset_ne (by decide)).trans ((kset_ne (by decide)).trans ((kset_ne (by decide)).trans hmd.2.2.2.2.2.2.2.2.2.2.2.1))), ((kset_ne (by decide)).trans ((kset_ne (by decide)).trans ((kset_ne (by decide)).trans hmd.2.2.2.2.2.2.2.2.2.2.2.2.1))), ((kset_ne (by decide)).trans ((kset_ne (by decide)).trans ((kset_ne (by decide)).trans hmd.2.2.2.2.2.2.2.2.2.2.2.2.2.1))), ((kset_ne (by decide)).trans ((kset_ne (by decide)).trans ((kset_ne (by decide)).trans hmd.2.2.2.2.2.2.2.2.2.2.2.2.2.2.1))), ((kset_ne (by decide)).trans ((kset_ne (by decide)).trans ((kset_ne (by decide)).trans hmd.2.2.2.2.2.2.2.2.2.2.2.2.2.2.2.1))), ((kset_ne (by decide)).trans ((kset_ne (by decide)).trans ((kset_ne (by decide)).trans hmd.2.2.2.2.2.2.2.2.2.2.2.2.2.2.2.2)))⟩
        have hI8 := hI.lets (X := x_o.toNat) (lA := kup ltA (10 * x_o + p_o).toNat v_o) (L2 := (kup (lts x_o.toNat) p_o.toNat v_o)) (c2 := cs x_o.toNat) (by omega) hcx (kLt_up hlx h18_o) (fun q_o hq => by unfold kup; by_cases e_o : q_o = p_o.toNat; rw [if_pos (by omega), if_pos e_o]; rw [if_neg (by omega), if_neg e_o]; exact hltx q_o (by omega)) (fun z_o hz => kup_ne (by omega))
        rw [kup_id (f := cs)] at hI8
        refine k_aload_n h_o 0 dX7_replace_72 rfl rfl ?_
        refine k_iload_n h_o 1 dX7_replace_73 rfl rfl ?_
        refine k_callV (As := [.int (iI x_o)]) (rest := []) h_o mX7_laysText kq_5_24 (c_X7_laysText hl0 hmdU hI8 hrx hN_o (by omega)) 19 hmdU.1 rfl rfl rfl (Nat.le_of_ble_eq_true rfl) ⟨rfl, rfl, ⟨(Nat.le_of_ble_eq_true rfl), (Nat.le_of_ble_eq_true rfl)⟩, ⟨(Nat.le_of_ble_eq_true rfl), (Nat.le_of_ble_eq_true rfl)⟩⟩ dX7_replace_74 (kcI fun z74_o wq38 hp => ?_)
        obtain ⟨rfl, rxq38, Nq38, hmdq38, hrxq38, hrowq38, hNq38, hTrq38, hexq38⟩ := hp
        have hmdZ : (kMd wq38 bd nr g_o T_o cs ams (kup ltA (((10 * x_o) + p_o).toNat) v_o) acA mnA rel (fnd + ((p_o + 1) * ((cs ((x_o).toNat)) - p_o))) (cs x_o.toNat) rxq38 Nq38 tm tr sh sg sm dp 0) := ⟨hmdq38.1, hmdq38.2.1, hmdq38.2.2.1, hmdq38.2.2.2.1, hmdq38.2.2.2.2.1, hmdq38.2.2.2.2.2.1, hmdq38.2.2.2.2.2.2.1, hmdq38.2.2.2.2.2.2.2.1, hmdq38.2.2.2.2.2.2.2.2.1, hmdq38.2.2.2.2.2.2.2.2.2.1, hmdq38.2.2.2.2.2.2.2.2.2.2.1, hmdq38.2.2.2.2.2.2.2.2.2.2.2.1, hmdq38.2.2.2.2.2.2.2.2.2.2.2.2.1, hmdq38.2.2.2.2.2.2.2.2.2.2.2.2.2.1, hmdq38.2.2.2.2.2.2.2.2.2.2.2.2.2.2.1, hmdq38.2.2.2.2.2.2.2.2.2.2.2.2.2.2.2.1, hmdq38.2.2.2.2.2.2.2.2.2.2.2.2.2.2.2.2⟩
        exact k_iret h_o hr rfl (⟨_, rfl, Or.inl ⟨⟨h7_o, h18_o⟩, (by rw [kup_eq]), ⟨⟨_, _, _, _, _, _, _, _, _, _, _, _, hmdZ, hI8, hrxq38, hNq38⟩, (fun x_o hx => ((hexq38 x_o hx).trans ((kset_ne (by omega)).trans ((kset_ne (by omega)).trans ((kset_ne (by omega)).trans rfl)))))⟩⟩⟩) (by omega) (by omega) dX7_replace_77
      · exfalso; omega
    · refine k_iconst h_o dX7_replace_21 ?_
      refine k_goto h_o 26 dX7_replace_22 (by decide) ?_
      refine k_put (fs' := [.ref (bd 0), .ref (bd 1), .ref (bd 2), .ref (bd 3), .ref (bd 4), .ref (bd 5), .ref (bd 6), .int (iI ((nr : Nat) : Int)), .ref (bd 8), .ref (bd 9), .ref (bd 10), .ref (bd 11), .int (iI ((T_o : Nat) : Int)), .long (lI fnd), .int (iI rel), .ref (bd 15), .int (iI sz), .ref (bd 17), .ref (bd 18), .int (iI tm), .ref (bd 20), .ref (bd 21), .int (iI sm), .int (iI dp), .int (iI 2)]) h_o 19 kf_X7_60 kt_X7_24 hmd.1 rfl rfl (Nat.le_of_ble_eq_true rfl) rfl dX7_replace_26 ?_
      refine k_aload_n h_o 0 dX7_replace_29 rfl rfl ?_
      refine k_get h_o 19 kf_X7_60 kset_eq rfl dX7_replace_30 ?_
      refine k_ifle h_o 38 (by decide) dX7_replace_33 (by decide) (fun h33_o => ?_) (fun h33_o => ?_)
      · exfalso; omega
      · refine k_iconst h_o dX7_replace_36 ?_
        have hmdZ : (kMd ((kset w_o 19 (bd 25) (ob 9 [.ref (bd 0), .ref (bd 1), .ref (bd 2), .ref (bd 3), .ref (bd 4), .ref (bd 5), .ref (bd 6), .int (iI ((nr : Nat) : Int)), .ref (bd 8), .ref (bd 9), .ref (bd 10), .ref (bd 11), .int (iI ((T_o : Nat) : Int)), .long (lI fnd), .int (iI rel), .ref (bd 15), .int (iI sz), .ref (bd 17), .ref (bd 18), .int (iI tm), .ref (bd 20), .ref (bd 21), .int (iI sm), .int (iI dp), .int (iI 2)]))) bd nr g_o T_o cs ams ltA acA mnA rel fnd sz rx N_o tm tr sh sg sm dp 2) := ⟨kset_eq, ((kset_ne (by decide)).trans hmd.2.1), ((kset_ne (by decide)).trans hmd.2.2.1), ((kset_ne (by decide)).trans hmd.2.2.2.1), ((kset_ne (by decide)).trans hmd.2.2.2.2.1), ((kset_ne (by decide)).trans hmd.2.2.2.2.2.1), ((kset_ne (by decide)).trans hmd.2.2.2.2.2.2.1), ((kset_ne (by decide)).trans hmd.2.2.2.2.2.2.2.1), ((kset_ne (by decide)).trans hmd.2.2.2.2.2.2.2.2.1), ((kset_ne (by decide)).trans hmd.2.2.2.2.2.2.2.2.2.1), ((kset_ne (by decide)).trans hmd.2.2.2.2.2.2.2.2.2.2.1), ((kset_ne (by decide)).trans hmd.2.2.2.2.2.2.2.2.2.2.2.1), ((kset_ne (by decide)).trans hmd.2.2.2.2.2.2.2.2.2.2.2.2.1), ((kset_ne (by decide)).trans hmd.2.2.2.2.2.2.2.2.2.2.2.2.2.1), ((kset_ne (by decide)).trans hmd.2.2.2.2.2.2.2.2.2.2.2.2.2.2.1), ((kset_ne (by decide)).trans hmd.2.2.2.2.2.2.2.2.2.2.2.2.2.2.2.1), ((kset_ne (by decide)).trans hmd.2.2.2.2.2.2.2.2.2.2.2.2.2.2.2.2)⟩
        exact k_iret h_o hr rfl (⟨_, rfl, Or.inr (Or.inr ⟨⟨h7_o, h18_o⟩, ⟨⟨_, _, _, _, _, _, _, _, _, _, _, _, hmdZ, hI, hrx, hN_o⟩, (fun x_o hx => ((kset_ne (by omega)).trans rfl))⟩⟩)⟩) (by omega) (by omega) dX7_replace_37
  · refine k_iconst h_o dX7_replace_10 ?_
    refine k_goto h_o 26 dX7_replace_11 (by decide) ?_
    refine k_put (fs' := [.ref (bd 0), .ref (bd 1), .ref (bd 2), .ref (bd 3), .ref (bd 4), .ref (bd 5), .ref (bd 6), .int (iI ((nr : Nat) : Int)), .ref (bd 8), .ref (bd 9), .ref (bd 10), .ref (bd 11), .int (iI ((T_o : Nat) : Int)), .long (lI fnd), .int (iI rel), .ref (bd 15), .int (iI sz), .ref (bd 17), .ref (bd 18), .int (iI tm), .ref (bd 20), .ref (bd 21), .int (iI sm), .int (iI dp), .int (iI 1)]) h_o 19 kf_X7_60 kt_X7_24 hmd.1 rfl rfl (Nat.le_of_ble_eq_true rfl) rfl dX7_replace_26 ?_
    refine k_aload_n h_o 0 dX7_replace_29 rfl rfl ?_
    refine k_get h_o 19 kf_X7_60 kset_eq rfl dX7_replace_30 ?_
    refine k_ifle h_o 38 (by decide) dX7_replace_33 (by decide) (fun h33_o => ?_) (fun h33_o => ?_)
    · exfalso; omega
    · refine k_iconst h_o dX7_replace_36 ?_
      have hmdZ : (kMd ((kset w_o 19 (bd 25) (ob 9 [.ref (bd 0), .ref (bd 1), .ref (bd 2), .ref (bd 3), .ref (bd 4), .ref (bd 5), .ref (bd 6), .int (iI ((nr : Nat) : Int)), .ref (bd 8), .ref (bd 9), .ref (bd 10), .ref (bd 11), .int (iI ((T_o : Nat) : Int)), .long (lI fnd), .int (iI rel), .ref (bd 15), .int (iI sz), .ref (bd 17), .ref (bd 18), .int (iI tm), .ref (bd 20), .ref (bd 21), .int (iI sm), .int (iI dp), .int (iI 1)]))) bd nr g_o T_o cs ams ltA acA mnA rel fnd sz rx N_o tm tr sh sg sm dp 1) := ⟨kset_eq, ((kset_ne (by decide)).trans hmd.2.1), ((kset_ne (by decide)).trans hmd.2.2.1), ((kset_ne (by decide)).trans hmd.2.2.2.1), ((kset_ne (by decide)).trans hmd.2.2.2.2.1), ((kset_ne (by decide)).trans hmd.2.2.2.2.2.1), ((kset_ne (by decide)).trans hmd.2.2.2.2.2.2.1), ((kset_ne (by decide)).trans hmd.2.2.2.2.2.2.2.1), ((kset_ne (by decide)).trans hmd.2.2.2.2.2.2.2.2.1), ((kset_ne (by decide)).trans hmd.2.2.2.2.2.2.2.2.2.1), ((kset_ne (by decide)).trans hmd.2.2.2.2.2.2.2.2.2.2.1), ((kset_ne (by decide)).trans hmd.2.2.2.2.2.2.2.2.2.2.2.1), ((kset_ne (by decide)).trans hmd.2.2.2.2.2.2.2.2.2.2.2.2.1), ((kset_ne (by decide)).trans hmd.2.2.2.2.2.2.2.2.2.2.2.2.2.1), ((kset_ne (by decide)).trans hmd.2.2.2.2.2.2.2.2.2.2.2.2.2.2.1), ((kset_ne (by decide)).trans hmd.2.2.2.2.2.2.2.2.2.2.2.2.2.2.2.1), ((kset_ne (by decide)).trans hmd.2.2.2.2.2.2.2.2.2.2.2.2.2.2.2.2)⟩
      exact k_iret h_o hr rfl (⟨_, rfl, Or.inr (Or.inl ⟨h7_o, ⟨⟨_, _, _, _, _, _, _, _, _, _, _, _, hmdZ, hI, hrx, hN_o⟩, (fun x_o hx => ((kset_ne (by omega)).trans rfl))⟩⟩)⟩) (by omega) (by omega) dX7_replace_37
