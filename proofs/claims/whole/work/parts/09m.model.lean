set_option maxHeartbeats 4000000 in
set_option maxRecDepth 100000 in
theorem c_X7_accept {E_o : kE} {l_o : Launch} (hl0 : l_o.stackTraces = false) {w_o : kW} {bd : Nat → Nat} {nr : Nat} {g_o : Nat → Nat → Int} {T_o : Nat} {lts : Nat → Nat → Int} {cs : Nat → Int} {acs : Nat → Nat → Int} {ams : Nat → Int} {rel fnd th : Int} {x_o : Int} {ac2 : Nat → Int} (hst : kMu w_o bd nr g_o T_o lts cs acs ams rel fnd th) (hx : -2147483648 ≤ x_o ∧ x_o < 2147483648) (hac : (0 ≤ x_o ∧ x_o < ((T_o : Nat) : Int)) → (m_lay g_o nr (lts x_o.toNat) (cs x_o.toNat) kO0).1 ≠ 0 → (∀ p_o : Nat, (p_o : Int) < (m_lay g_o nr (lts x_o.toNat) (cs x_o.toNat) kO0).1 → ac2 p_o = (m_lay g_o nr (lts x_o.toNat) (cs x_o.toNat) kO0).2.1 p_o) ∧ ∀ p_o, 0 ≤ ac2 p_o ∧ ac2 p_o < 12) : kM E_o l_o yX7_accept (.code yX7_accept cX7_accept 3 (some .int) :: kAL) { frames := 301, cells := 0, slots := 0, locals := 6023 } 0 0 [.ref (bd 25), .int (iI x_o)] w_o (pI (fun z_o w2_o => (((0 ≤ x_o ∧ x_o < ((T_o : Nat) : Int)) ∧ (m_lay g_o nr (lts x_o.toNat) (cs x_o.toNat) kO0).1 ≠ 0) ∧ (m_lay g_o nr (lts x_o.toNat) (cs x_o.toNat) kO0).1 = z_o ∧ kMv w_o w2_o bd nr g_o T_o lts cs (kup acs x_o.toNat ac2) (kup ams x_o.toNat (m_lay g_o nr (lts x_o.toNat) (cs x_o.toNat) kO0).1) rel fnd 0) ∨ (¬ (0 ≤ x_o ∧ x_o < ((T_o : Nat) : Int)) ∧ kMv w_o w2_o bd nr g_o T_o lts cs acs ams rel fnd 1) ∨ (((0 ≤ x_o ∧ x_o < ((T_o : Nat) : Int)) ∧ (m_lay g_o nr (lts x_o.toNat) (cs x_o.toNat) kO0).1 = 0) ∧ kMv w_o w2_o bd nr g_o T_o lts cs acs ams rel fnd 2))) := by
  refine kM_of hl0 (by decide +kernel) (Nat.le_of_ble_eq_true rfl) ?_
  intro X_o hXl h_o hr hin
  subst hXl
  obtain ⟨ltA, acA, mnA, sz, rx, N_o, tm, tr, sh, sg, sm, dp, hmd, hI, hrx, hN_o⟩ := hst
  obtain ⟨hwf, hnr, hT6, hmn, hg0, htx⟩ := id hI
  show kG E_o X_o 3 0 0 w_o 0 [(0, .ref (bd 25)), (1, .int (iI x_o))] []
  refine k_aload_n h_o 0 dX7_accept_0 rfl rfl ?_
  refine k_iload_n h_o 1 dX7_accept_1 rfl rfl ?_
  refine k_callV (As := [.int (iI x_o)]) (rest := []) h_o mX7_asks kq_5_59 (c_X7_asks hl0 hmd hT6 (by omega)) 19 hmd.1 rfl rfl rfl (Nat.le_of_ble_eq_true rfl) ⟨rfl, rfl, ⟨(Nat.le_of_ble_eq_true rfl), (Nat.le_of_ble_eq_true rfl)⟩, ⟨(Nat.le_of_ble_eq_true rfl), (Nat.le_of_ble_eq_true rfl)⟩⟩ dX7_accept_2 (kcI fun zq39 wq39 hp => ?_)
  rcases hp with ⟨hxT, rfl, hmdq39, hexq39⟩ | ⟨hxT, rfl, hmdq39, hexq39⟩
  · refine k_ifne h_o 10 (by decide) dX7_accept_5 (by decide) (fun h5_o => ?_) (fun h5_o => ?_)
    · obtain ⟨hlx, hcx, hax, hacx, hltx, hacAx⟩ := htx x_o.toNat (by omega)
      refine k_aload_n h_o 0 dX7_accept_10 rfl rfl ?_
      refine k_aload_n h_o 0 dX7_accept_11 rfl rfl ?_
      refine k_iload_n h_o 1 dX7_accept_12 rfl rfl ?_
      refine k_callV (As := [.int (iI x_o)]) (rest := [.ref (bd 25)]) h_o mX7_walksText kq_5_83 (c_X7_walksText hl0 hmdq39 hI hrx hN_o (by omega)) 19 hmdq39.1 rfl rfl rfl (Nat.le_of_ble_eq_true rfl) ⟨rfl, rfl, ⟨(Nat.le_of_ble_eq_true rfl), (Nat.le_of_ble_eq_true rfl)⟩, ⟨(Nat.le_of_ble_eq_true rfl), (Nat.le_of_ble_eq_true rfl)⟩⟩ dX7_accept_13 (kcI fun z13_o wq40 hp => ?_)
      obtain ⟨rfl, rxq40, Nq40, tmq40, trq40, shq40, sgq40, smq40, dpq40, hmdq40, hrxq40, hNq40, hswq40, hexq40⟩ := hp
      obtain ⟨⟨ht1, ht2, ht3⟩, ht4, ht5, ht6, ht7⟩ := id hswq40
      refine k_ifne h_o 23 (m_natrg m_TT_le) dX7_accept_16 (by decide) (fun h16_o => ?_) (fun h16_o => ?_)
      · refine k_iconst h_o dX7_accept_23 ?_
        refine k_put (fs' := [.ref (bd 0), .ref (bd 1), .ref (bd 2), .ref (bd 3), .ref (bd 4), .ref (bd 5), .ref (bd 6), .int (iI ((nr : Nat) : Int)), .ref (bd 8), .ref (bd 9), .ref (bd 10), .ref (bd 11), .int (iI ((T_o : Nat) : Int)), .long (lI fnd), .int (iI rel), .ref (bd 15), .int (iI (cs x_o.toNat)), .ref (bd 17), .ref (bd 18), .int (iI tmq40), .ref (bd 20), .ref (bd 21), .int (iI smq40), .int (iI dpq40), .int (iI 0)]) h_o 19 kf_X7_60 kt_X7_24 hmdq40.1 rfl rfl (Nat.le_of_ble_eq_true rfl) rfl dX7_accept_24 ?_
        refine k_aload_n h_o 0 dX7_accept_27 rfl rfl ?_
        refine k_get h_o 19 kf_X7_60 kset_eq rfl dX7_accept_28 ?_
        refine k_ifle h_o 36 (by decide) dX7_accept_31 (by decide) (fun h31_o => ?_) (fun h31_o => ?_)
        · have hmdB : (kMd ((kset wq40 19 (bd 25) (ob 9 [.ref (bd 0), .ref (bd 1), .ref (bd 2), .ref (bd 3), .ref (bd 4), .ref (bd 5), .ref (bd 6), .int (iI ((nr : Nat) : Int)), .ref (bd 8), .ref (bd 9), .ref (bd 10), .ref (bd 11), .int (iI ((T_o : Nat) : Int)), .long (lI fnd), .int (iI rel), .ref (bd 15), .int (iI (cs x_o.toNat)), .ref (bd 17), .ref (bd 18), .int (iI tmq40), .ref (bd 20), .ref (bd 21), .int (iI smq40), .int (iI dpq40), .int (iI 0)]))) bd nr g_o T_o cs ams ltA acA mnA rel fnd (cs x_o.toNat) rxq40 Nq40 tmq40 trq40 shq40 sgq40 smq40 dpq40 0) := ⟨kset_eq, ((kset_ne (by decide)).trans hmdq40.2.1), ((kset_ne (by decide)).trans hmdq40.2.2.1), ((kset_ne (by decide)).trans hmdq40.2.2.2.1), ((kset_ne (by decide)).trans hmdq40.2.2.2.2.1), ((kset_ne (by decide)).trans hmdq40.2.2.2.2.2.1), ((kset_ne (by decide)).trans hmdq40.2.2.2.2.2.2.1), ((kset_ne (by decide)).trans hmdq40.2.2.2.2.2.2.2.1), ((kset_ne (by decide)).trans hmdq40.2.2.2.2.2.2.2.2.1), ((kset_ne (by decide)).trans hmdq40.2.2.2.2.2.2.2.2.2.1), ((kset_ne (by decide)).trans hmdq40.2.2.2.2.2.2.2.2.2.2.1), ((kset_ne (by decide)).trans hmdq40.2.2.2.2.2.2.2.2.2.2.2.1), ((kset_ne (by decide)).trans hmdq40.2.2.2.2.2.2.2.2.2.2.2.2.1), ((kset_ne (by decide)).trans hmdq40.2.2.2.2.2.2.2.2.2.2.2.2.2.1), ((kset_ne (by decide)).trans hmdq40.2.2.2.2.2.2.2.2.2.2.2.2.2.2.1), ((kset_ne (by decide)).trans hmdq40.2.2.2.2.2.2.2.2.2.2.2.2.2.2.2.1), ((kset_ne (by decide)).trans hmdq40.2.2.2.2.2.2.2.2.2.2.2.2.2.2.2.2)⟩
          refine k_iconst h_o dX7_accept_36 ?_
          refine k_istore_n (lv' := [(2, .int (iI 0)), (0, .ref (bd 25)), (1, .int (iI x_o))]) h_o dX7_accept_37 rfl (by decide) rfl ?_
          have L38 : ∀ (mm : Nat) (k_o : Int) (aA : Nat → Int) (w8_o : kW), (0 ≤ k_o ∧ k_o ≤ tmq40) → (∀ q_o : Nat, (q_o : Int) < k_o → aA (100 * x_o.toNat + q_o) = trq40 q_o) → (∀ z_o : Nat, (z_o < 100 * x_o.toNat ∨ 100 * x_o.toNat + 100 ≤ z_o) → aA z_o = acA z_o) → (kMd w8_o bd nr g_o T_o cs ams ltA aA mnA rel fnd (cs x_o.toNat) rxq40 Nq40 tmq40 trq40 shq40 sgq40 smq40 dpq40 0) → (kEx w_o w8_o kMk) → (tmq40 - k_o < (mm : Int)) → kG E_o X_o 3 0 0 w8_o 38 [(0, .ref (bd 25)), (1, .int (iI x_o)), (2, .int (iI k_o))] [] := by
            intro mm
            induction mm with
            | zero =>
              intro k_o aA w8_o hk haA haB hmd8 hx8 hm_o
              exfalso; omega
            | succ mm ih38 =>
              intro k_o aA w8_o hk haA haB hmd8 hx8 hm_o
              refine k_iload_n h_o 2 dX7_accept_38 rfl rfl ?_
              refine k_aload_n h_o 0 dX7_accept_39 rfl rfl ?_
              refine k_get h_o 19 kf_X7_115 hmd8.1 rfl dX7_accept_40 ?_
              refine k_icmp_ge h_o 69 (by omega) (by omega) dX7_accept_43 (by decide) (fun h43_o => ?_) (fun h43_o => ?_)
              · refine k_aload_n h_o 0 dX7_accept_69 rfl rfl ?_
                refine k_get h_o 19 kf_X7_41 hmd8.1 rfl dX7_accept_70 ?_
                refine k_iload_n h_o 1 dX7_accept_73 rfl rfl ?_
                refine k_aload_n h_o 0 dX7_accept_74 rfl rfl ?_
                refine k_get h_o 19 kf_X7_115 hmd8.1 rfl dX7_accept_75 ?_
                refine k_top (z' := (m_lay g_o nr (lts x_o.toNat) (cs x_o.toNat) kO0).1) (ht1) ?_
                refine k_iast h_o 31 hmd8.2.2.2.2.2.2.2.2.2.2.2.1 (by omega) (by decide) dX7_accept_78 ?_
                refine k_aload_n h_o 0 dX7_accept_79 rfl rfl ?_
                refine k_get h_o 19 kf_X7_115 ((kset_ne (by decide)).trans hmd8.1) rfl dX7_accept_80 ?_
                have hmdZ : (kMd ((kset w8_o 31 (bd 11) (ai 6 (kup ams x_o.toNat ((m_lay g_o nr (lts x_o.toNat) (cs x_o.toNat) kO0).1))))) bd nr g_o T_o cs (kup ams x_o.toNat ((m_lay g_o nr (lts x_o.toNat) (cs x_o.toNat) kO0).1)) ltA aA mnA rel fnd (cs x_o.toNat) rxq40 Nq40 tmq40 trq40 shq40 sgq40 smq40 dpq40 0) := ⟨((kset_ne (by decide)).trans hmd8.1), ((kset_ne (by decide)).trans hmd8.2.1), ((kset_ne (by decide)).trans hmd8.2.2.1), ((kset_ne (by decide)).trans hmd8.2.2.2.1), ((kset_ne (by decide)).trans hmd8.2.2.2.2.1), ((kset_ne (by decide)).trans hmd8.2.2.2.2.2.1), ((kset_ne (by decide)).trans hmd8.2.2.2.2.2.2.1), ((kset_ne (by decide)).trans hmd8.2.2.2.2.2.2.2.1), ((kset_ne (by decide)).trans hmd8.2.2.2.2.2.2.2.2.1), ((kset_ne (by decide)).trans hmd8.2.2.2.2.2.2.2.2.2.1), ((kset_ne (by decide)).trans hmd8.2.2.2.2.2.2.2.2.2.2.1), kset_eq, ((kset_ne (by decide)).trans hmd8.2.2.2.2.2.2.2.2.2.2.2.2.1), ((kset_ne (by decide)).trans hmd8.2.2.2.2.2.2.2.2.2.2.2.2.2.1), ((kset_ne (by decide)).trans hmd8.2.2.2.2.2.2.2.2.2.2.2.2.2.2.1), ((kset_ne (by decide)).trans hmd8.2.2.2.2.2.2.2.2.2.2.2.2.2.2.2.1), ((kset_ne (by decide)).trans hmd8.2.2.2.2.2.2.2.2.2.2.2.2.2.2.2.2)⟩
                refine k_top (z' := (m_lay g_o nr (lts x_o.toNat) (cs x_o.toNat) kO0).1) (ht1) ?_
                exact k_iret h_o hr rfl (⟨_, rfl, Or.inl ⟨⟨hxT, (fun q_o => h16_o (by rw [(m_lay_one hwf hcx).mpr q_o]; rfl))⟩, rfl, ⟨⟨_, _, _, _, _, _, _, _, _, _, _, _, hmdZ, hI.acc (by omega) ht2 (hac hxT (fun q_o => h16_o (by rw [(m_lay_one hwf hcx).mpr q_o]; rfl))).2 (fun q_o hq => (haA q_o (by omega)).trans ((ht3 q_o (by omega)).trans ((hac hxT (fun q_o => h16_o (by rw [(m_lay_one hwf hcx).mpr q_o]; rfl))).1 q_o hq).symm)) haB, hrxq40, hNq40⟩, (fun x_o hx => ((kset_ne (by omega)).trans (hx8 x_o hx)))⟩⟩⟩) (by omega) (by omega) dX7_accept_83
              · refine k_aload_n h_o 0 dX7_accept_46 rfl rfl ?_
                refine k_get h_o 19 kf_X7_38 hmd8.1 rfl dX7_accept_47 ?_
                refine k_bipush h_o dX7_accept_50 (by decide) ?_
                refine k_iload_n h_o 1 dX7_accept_52 rfl rfl ?_
                refine k_imul h_o dX7_accept_53 ?_
                refine k_iload_n h_o 2 dX7_accept_54 rfl rfl ?_
                refine k_iadd h_o dX7_accept_55 ?_
                refine k_aload_n h_o 0 dX7_accept_56 rfl rfl ?_
                refine k_get h_o 19 kf_X7_50 hmd8.1 rfl dX7_accept_57 ?_
                refine k_iload_n h_o 2 dX7_accept_60 rfl rfl ?_
                refine k_iald h_o 38 hmd8.2.2.2.2.2.2.2.2.2.2.2.2.2.2.1 (by omega) (by decide) dX7_accept_61 ?_
                refine k_iast h_o 30 hmd8.2.2.2.2.2.2.2.2.2.2.1 (by omega) (by decide) dX7_accept_62 ?_
                refine k_iinc (lv' := [(2, .int (iI (k_o + 1))), (0, .ref (bd 25)), (1, .int (iI x_o))]) h_o 2 dX7_accept_63 rfl (by decide) rfl ?_
                refine k_goto h_o 38 dX7_accept_66 (by decide) ?_
                refine k_sub (lv' := [(0, .ref (bd 25)), (1, .int (iI x_o)), (2, .int (iI (k_o + 1)))]) [1, 2, 0] rfl ?_
                exact ih38 (k_o + 1) (kup aA (100 * x_o + k_o).toNat (trq40 k_o.toNat)) (kset w8_o 30 (bd 10) (ai 600 (kup aA (((100 * x_o) + k_o).toNat) (trq40 ((k_o).toNat))))) (by omega) (fun q_o hq => by unfold kup; by_cases e_o : q_o = k_o.toNat; rw [if_pos (by omega), e_o]; rw [if_neg (by omega)]; exact haA q_o (by omega)) (fun z_o hz => (kup_ne (by omega)).trans (haB z_o hz)) (⟨((kset_ne (by decide)).trans hmd8.1), ((kset_ne (by decide)).trans hmd8.2.1), ((kset_ne (by decide)).trans hmd8.2.2.1), ((kset_ne (by decide)).trans hmd8.2.2.2.1), ((kset_ne (by decide)).trans hmd8.2.2.2.2.1), ((kset_ne (by decide)).trans hmd8.2.2.2.2.2.1), ((kset_ne (by decide)).trans hmd8.2.2.2.2.2.2.1), ((kset_ne (by decide)).trans hmd8.2.2.2.2.2.2.2.1), ((kset_ne (by decide)).trans hmd8.2.2.2.2.2.2.2.2.1), ((kset_ne (by decide)).trans hmd8.2.2.2.2.2.2.2.2.2.1), kset_eq, ((kset_ne (by decide)).trans hmd8.2.2.2.2.2.2.2.2.2.2.2.1), ((kset_ne (by decide)).trans hmd8.2.2.2.2.2.2.2.2.2.2.2.2.1), ((kset_ne (by decide)).trans hmd8.2.2.2.2.2.2.2.2.2.2.2.2.2.1), ((kset_ne (by decide)).trans hmd8.2.2.2.2.2.2.2.2.2.2.2.2.2.2.1), ((kset_ne (by decide)).trans hmd8.2.2.2.2.2.2.2.2.2.2.2.2.2.2.2.1), ((kset_ne (by decide)).trans hmd8.2.2.2.2.2.2.2.2.2.2.2.2.2.2.2.2)⟩) (fun x_o hx => ((kset_ne (by omega)).trans (hx8 x_o hx))) (by omega)
          refine k_sub (lv' := [(0, .ref (bd 25)), (1, .int (iI x_o)), (2, .int (iI 0))]) [1, 2, 0] rfl ?_
          exact L38 ((tmq40 - 0 : Int).toNat + 1) 0 acA (kset wq40 19 (bd 25) (ob 9 [.ref (bd 0), .ref (bd 1), .ref (bd 2), .ref (bd 3), .ref (bd 4), .ref (bd 5), .ref (bd 6), .int (iI ((nr : Nat) : Int)), .ref (bd 8), .ref (bd 9), .ref (bd 10), .ref (bd 11), .int (iI ((T_o : Nat) : Int)), .long (lI fnd), .int (iI rel), .ref (bd 15), .int (iI (cs x_o.toNat)), .ref (bd 17), .ref (bd 18), .int (iI tmq40), .ref (bd 20), .ref (bd 21), .int (iI smq40), .int (iI dpq40), .int (iI 0)])) (by omega) (fun q_o hq => by omega) (fun z_o _ => rfl) hmdB (fun x_o hx => ((kset_ne (by omega)).trans ((hexq40 x_o hx).trans (hexq39 x_o hx)))) (by omega)
        · exfalso; omega
      · refine k_iconst h_o dX7_accept_19 ?_
        refine k_goto h_o 24 dX7_accept_20 (by decide) ?_
        refine k_put (fs' := [.ref (bd 0), .ref (bd 1), .ref (bd 2), .ref (bd 3), .ref (bd 4), .ref (bd 5), .ref (bd 6), .int (iI ((nr : Nat) : Int)), .ref (bd 8), .ref (bd 9), .ref (bd 10), .ref (bd 11), .int (iI ((T_o : Nat) : Int)), .long (lI fnd), .int (iI rel), .ref (bd 15), .int (iI (cs x_o.toNat)), .ref (bd 17), .ref (bd 18), .int (iI tmq40), .ref (bd 20), .ref (bd 21), .int (iI smq40), .int (iI dpq40), .int (iI 2)]) h_o 19 kf_X7_60 kt_X7_24 hmdq40.1 rfl rfl (Nat.le_of_ble_eq_true rfl) rfl dX7_accept_24 ?_
        refine k_aload_n h_o 0 dX7_accept_27 rfl rfl ?_
        refine k_get h_o 19 kf_X7_60 kset_eq rfl dX7_accept_28 ?_
        refine k_ifle h_o 36 (by decide) dX7_accept_31 (by decide) (fun h31_o => ?_) (fun h31_o => ?_)
        · exfalso; omega
        · refine k_iconst h_o dX7_accept_34 ?_
          have hmdZ : (kMd ((kset wq40 19 (bd 25) (ob 9 [.ref (bd 0), .ref (bd 1), .ref (bd 2), .ref (bd 3), .ref (bd 4), .ref (bd 5), .ref (bd 6), .int (iI ((nr : Nat) : Int)), .ref (bd 8), .ref (bd 9), .ref (bd 10), .ref (bd 11), .int (iI ((T_o : Nat) : Int)), .long (lI fnd), .int (iI rel), .ref (bd 15), .int (iI (cs x_o.toNat)), .ref (bd 17), .ref (bd 18), .int (iI tmq40), .ref (bd 20), .ref (bd 21), .int (iI smq40), .int (iI dpq40), .int (iI 2)]))) bd nr g_o T_o cs ams ltA acA mnA rel fnd (cs x_o.toNat) rxq40 Nq40 tmq40 trq40 shq40 sgq40 smq40 dpq40 2) := ⟨kset_eq, ((kset_ne (by decide)).trans hmdq40.2.1), ((kset_ne (by decide)).trans hmdq40.2.2.1), ((kset_ne (by decide)).trans hmdq40.2.2.2.1), ((kset_ne (by decide)).trans hmdq40.2.2.2.2.1), ((kset_ne (by decide)).trans hmdq40.2.2.2.2.2.1), ((kset_ne (by decide)).trans hmdq40.2.2.2.2.2.2.1), ((kset_ne (by decide)).trans hmdq40.2.2.2.2.2.2.2.1), ((kset_ne (by decide)).trans hmdq40.2.2.2.2.2.2.2.2.1), ((kset_ne (by decide)).trans hmdq40.2.2.2.2.2.2.2.2.2.1), ((kset_ne (by decide)).trans hmdq40.2.2.2.2.2.2.2.2.2.2.1), ((kset_ne (by decide)).trans hmdq40.2.2.2.2.2.2.2.2.2.2.2.1), ((kset_ne (by decide)).trans hmdq40.2.2.2.2.2.2.2.2.2.2.2.2.1), ((kset_ne (by decide)).trans hmdq40.2.2.2.2.2.2.2.2.2.2.2.2.2.1), ((kset_ne (by decide)).trans hmdq40.2.2.2.2.2.2.2.2.2.2.2.2.2.2.1), ((kset_ne (by decide)).trans hmdq40.2.2.2.2.2.2.2.2.2.2.2.2.2.2.2.1), ((kset_ne (by decide)).trans hmdq40.2.2.2.2.2.2.2.2.2.2.2.2.2.2.2.2)⟩
          exact k_iret h_o hr rfl (⟨_, rfl, Or.inr (Or.inr ⟨⟨hxT, (m_lay_one hwf hcx).mp (by omega)⟩, ⟨⟨_, _, _, _, _, _, _, _, _, _, _, _, hmdZ, hI, hrxq40, hNq40⟩, (fun x_o hx => ((kset_ne (by omega)).trans ((hexq40 x_o hx).trans (hexq39 x_o hx))))⟩⟩)⟩) (by omega) (by omega) dX7_accept_35
    · exfalso; omega
  · refine k_ifne h_o 10 (by decide) dX7_accept_5 (by decide) (fun h5_o => ?_) (fun h5_o => ?_)
    · exfalso; omega
    · refine k_iconst h_o dX7_accept_8 ?_
      have hmdZ : (kMd wq39 bd nr g_o T_o cs ams ltA acA mnA rel fnd sz rx N_o tm tr sh sg sm dp 1) := ⟨hmdq39.1, hmdq39.2.1, hmdq39.2.2.1, hmdq39.2.2.2.1, hmdq39.2.2.2.2.1, hmdq39.2.2.2.2.2.1, hmdq39.2.2.2.2.2.2.1, hmdq39.2.2.2.2.2.2.2.1, hmdq39.2.2.2.2.2.2.2.2.1, hmdq39.2.2.2.2.2.2.2.2.2.1, hmdq39.2.2.2.2.2.2.2.2.2.2.1, hmdq39.2.2.2.2.2.2.2.2.2.2.2.1, hmdq39.2.2.2.2.2.2.2.2.2.2.2.2.1, hmdq39.2.2.2.2.2.2.2.2.2.2.2.2.2.1, hmdq39.2.2.2.2.2.2.2.2.2.2.2.2.2.2.1, hmdq39.2.2.2.2.2.2.2.2.2.2.2.2.2.2.2.1, hmdq39.2.2.2.2.2.2.2.2.2.2.2.2.2.2.2.2⟩
      exact k_iret h_o hr rfl (⟨_, rfl, Or.inr (Or.inl ⟨hxT, ⟨⟨_, _, _, _, _, _, _, _, _, _, _, _, hmdZ, hI, hrx, hN_o⟩, (fun x_o hx => (hexq39 x_o hx))⟩⟩)⟩) (by omega) (by omega) dX7_accept_9

set_option maxHeartbeats 4000000 in
set_option maxRecDepth 100000 in
theorem c_X7_faultOf {E_o : kE} {l_o : Launch} (hl0 : l_o.stackTraces = false) {w_o : kW} {bd : Nat → Nat} {nr : Nat} {g_o : Nat → Nat → Int} {T_o : Nat} {cs ams ltA acA mnA : Nat → Int} {rel fnd sz : Int} {rx : Nat → Int} {N_o : Nat → Nat} {tm : Int} {tr sh sg : Nat → Int} {sm dp th : Int} {lts acs : Nat → Nat → Int} {x_o : Int} (hmd : kMd w_o bd nr g_o T_o cs ams ltA acA mnA rel fnd sz rx N_o tm tr sh sg sm dp th) (hI : kMi nr g_o T_o lts cs acs ams ltA acA mnA) (hrx : kLt rx) (hN_o : ∀ x_o, N_o x_o ≤ 1000) (hx : 0 ≤ x_o ∧ x_o < ((T_o : Nat) : Int)) : kM E_o l_o yX7_faultOf (.code yX7_faultOf cX7_faultOf 5 (some .char) :: kAL) { frames := 301, cells := 0, slots := 0, locals := 6023 } 0 0 [.ref (bd 25), .int (iI x_o)] w_o (pI (fun z_o w2_o => m_fv g_o nr (lts x_o.toNat) (cs x_o.toNat) (acs x_o.toNat) (ams x_o.toNat) = z_o ∧ ∃ (sz2 : Int) (rx2 : Nat → Int) (N2 : Nat → Nat) (tm2 : Int) (tr2 sh2 sg2 : Nat → Int) (sm2 dp2 : Int), (kMd w2_o bd nr g_o T_o cs ams ltA acA mnA rel fnd sz2 rx2 N2 tm2 tr2 sh2 sg2 sm2 dp2 th) ∧ kLt rx2 ∧ (∀ z_o, N2 z_o ≤ 1000) ∧ kEx w_o w2_o kMk)) := by
  refine kM_of hl0 (by decide +kernel) (Nat.le_of_ble_eq_true rfl) ?_
  intro X_o hXl h_o hr hin
  subst hXl
  obtain ⟨hwf, hnr, hT6, hmn, hg0, htx⟩ := id hI
  obtain ⟨hlx, hcx, hax, hacx, hltx, hacAx⟩ := htx x_o.toNat (by omega)
  show kG E_o X_o 5 0 0 w_o 0 [(0, .ref (bd 25)), (1, .int (iI x_o))] []
  refine k_aload_n h_o 0 dX7_faultOf_0 rfl rfl ?_
  refine k_iload_n h_o 1 dX7_faultOf_1 rfl rfl ?_
  refine k_callV (As := [.int (iI x_o)]) (rest := []) h_o mX7_walksText kq_5_83 (c_X7_walksText hl0 hmd hI hrx hN_o (by omega)) 19 hmd.1 rfl rfl rfl (Nat.le_of_ble_eq_true rfl) ⟨rfl, rfl, ⟨(Nat.le_of_ble_eq_true rfl), (Nat.le_of_ble_eq_true rfl)⟩, ⟨(Nat.le_of_ble_eq_true rfl), (Nat.le_of_ble_eq_true rfl)⟩⟩ dX7_faultOf_2 (kcI fun z2_o wq41 hp => ?_)
  obtain ⟨rfl, rxq41, Nq41, tmq41, trq41, shq41, sgq41, smq41, dpq41, hmdq41, hrxq41, hNq41, hswq41, hexq41⟩ := hp
  obtain ⟨⟨ht1, ht2, ht3⟩, ht4, ht5, ht6, ht7⟩ := id hswq41
  refine k_istore_n (lv' := [(2, .int (iI ((m_TT g_o nr (lts x_o.toNat) 10 0 (cs x_o.toNat - 1) : Nat) : Int))), (0, .ref (bd 25)), (1, .int (iI x_o))]) h_o dX7_faultOf_5 rfl (by decide) rfl ?_
  refine k_iload_n h_o 0 dX7_faultOf_6 rfl rfl ?_
  refine k_iconst h_o dX7_faultOf_7 ?_
  refine k_icmp_eq h_o 23 (m_natrg m_TT_le) (by decide) dX7_faultOf_8 (by decide) (fun h8_o => ?_) (fun h8_o => ?_)
  · refine k_aload_n h_o 1 dX7_faultOf_23 rfl rfl ?_
    refine k_get h_o 19 kf_X7_41 hmdq41.1 rfl dX7_faultOf_24 ?_
    refine k_iload_n h_o 2 dX7_faultOf_27 rfl rfl ?_
    refine k_iald h_o 31 hmdq41.2.2.2.2.2.2.2.2.2.2.2.1 (by omega) (by decide) dX7_faultOf_28 ?_
    refine k_ifne h_o 35 (by omega) dX7_faultOf_29 (by decide) (fun h29_o => ?_) (fun h29_o => ?_)
    · refine k_aload_n h_o 1 dX7_faultOf_35 rfl rfl ?_
      refine k_get h_o 19 kf_X7_41 hmdq41.1 rfl dX7_faultOf_36 ?_
      refine k_iload_n h_o 2 dX7_faultOf_39 rfl rfl ?_
      refine k_iald h_o 31 hmdq41.2.2.2.2.2.2.2.2.2.2.2.1 (by omega) (by decide) dX7_faultOf_40 ?_
      refine k_aload_n h_o 1 dX7_faultOf_41 rfl rfl ?_
      refine k_get h_o 19 kf_X7_115 hmdq41.1 rfl dX7_faultOf_42 ?_
      refine k_icmp_ne h_o 52 (by omega) (by omega) dX7_faultOf_45 (by decide) (fun h45_o => ?_) (fun h45_o => ?_)
      · refine k_iconst h_o dX7_faultOf_52 ?_
        refine k_istore_n (lv' := [(3, .int (iI 0)), (2, .int (iI ((m_TT g_o nr (lts x_o.toNat) 10 0 (cs x_o.toNat - 1) : Nat) : Int))), (0, .ref (bd 25)), (1, .int (iI x_o))]) h_o dX7_faultOf_53 rfl (by decide) rfl ?_
        refine k_iconst h_o dX7_faultOf_54 ?_
        refine k_istore (lv' := [(4, .int (iI 0)), (3, .int (iI 0)), (2, .int (iI ((m_TT g_o nr (lts x_o.toNat) 10 0 (cs x_o.toNat - 1) : Nat) : Int))), (0, .ref (bd 25)), (1, .int (iI x_o))]) h_o dX7_faultOf_55 (by decide) rfl ?_
        have L57 : ∀ (mm : Nat) (k_o : Int), (0 ≤ k_o ∧ k_o ≤ tmq41) → (tmq41 - k_o < (mm : Int)) → kG E_o X_o 5 0 0 wq41 57 [(0, .ref (bd 25)), (1, .int (iI x_o)), (2, .int (iI ((m_TT g_o nr (lts x_o.toNat) 10 0 (cs x_o.toNat - 1) : Nat) : Int))), (3, .int (iI (bI (ams x_o.toNat = tmq41 ∧ ∀ q_o : Nat, (q_o : Int) < k_o → acs x_o.toNat q_o = trq41 q_o)))), (4, .int (iI k_o))] [] := by
          intro mm
          induction mm with
          | zero =>
            intro k_o hk hm_o
            exfalso; omega
          | succ mm ih57 =>
            intro k_o hk hm_o
            refine k_iload h_o 4 dX7_faultOf_57 rfl ?_
            refine k_aload_n h_o 0 dX7_faultOf_59 rfl rfl ?_
            refine k_get h_o 19 kf_X7_115 hmdq41.1 rfl dX7_faultOf_60 ?_
            refine k_icmp_ge h_o 104 (by omega) (by omega) dX7_faultOf_63 (by decide) (fun h63_o => ?_) (fun h63_o => ?_)
            · refine k_iload_n h_o 3 dX7_faultOf_104 rfl rfl ?_
              refine k_ifBeq h_o 113 dX7_faultOf_105 (by decide) (fun h105_o => ?_) (fun h105_o => ?_)
              · refine k_bipush h_o dX7_faultOf_113 (by decide) ?_
                exact k_iret h_o hr rfl (⟨_, rfl, (by unfold m_fv; rw [if_neg (by omega), if_neg (by omega), if_neg (by omega), if_neg (fun z_o => h105_o ⟨by omega, fun q_o hq => (z_o.2 q_o (by omega)).trans (ht3 q_o (by omega)).symm⟩)]), cs x_o.toNat, rxq41, Nq41, tmq41, trq41, shq41, sgq41, smq41, dpq41, hmdq41, hrxq41, hNq41, (fun x_o hx => (hexq41 x_o hx))⟩) (by omega) (by omega) dX7_faultOf_115
              · refine k_bipush h_o dX7_faultOf_108 (by decide) ?_
                refine k_goto h_o 115 dX7_faultOf_110 (by decide) ?_
                exact k_iret h_o hr rfl (⟨_, rfl, (by unfold m_fv; rw [if_neg (by omega), if_neg (by omega), if_neg (by omega), if_pos ⟨by omega, fun q_o hq => (h105_o.2 q_o (by omega)).trans (ht3 q_o (by omega))⟩]), cs x_o.toNat, rxq41, Nq41, tmq41, trq41, shq41, sgq41, smq41, dpq41, hmdq41, hrxq41, hNq41, (fun x_o hx => (hexq41 x_o hx))⟩) (by omega) (by omega) dX7_faultOf_115
            · refine k_iload_n h_o 3 dX7_faultOf_66 rfl rfl ?_
              refine k_ifBeq h_o 104 dX7_faultOf_67 (by decide) (fun h67_o => ?_) (fun h67_o => ?_)
              · refine k_iload_n h_o 3 dX7_faultOf_104 rfl rfl ?_
                refine k_ifBeq h_o 113 dX7_faultOf_105 (by decide) (fun h105_o => ?_) (fun h105_o => ?_)
                · refine k_bipush h_o dX7_faultOf_113 (by decide) ?_
                  exact k_iret h_o hr rfl (⟨_, rfl, (by unfold m_fv; rw [if_neg (by omega), if_neg (by omega), if_neg (by omega), if_neg (fun z_o => h105_o ⟨by omega, fun q_o hq => (z_o.2 q_o (by omega)).trans (ht3 q_o (by omega)).symm⟩)]), cs x_o.toNat, rxq41, Nq41, tmq41, trq41, shq41, sgq41, smq41, dpq41, hmdq41, hrxq41, hNq41, (fun x_o hx => (hexq41 x_o hx))⟩) (by omega) (by omega) dX7_faultOf_115
                · exfalso; exact h67_o h105_o
              · refine k_aload_n h_o 0 dX7_faultOf_70 rfl rfl ?_
                refine k_get h_o 19 kf_X7_38 hmdq41.1 rfl dX7_faultOf_71 ?_
                refine k_bipush h_o dX7_faultOf_74 (by decide) ?_
                refine k_iload_n h_o 1 dX7_faultOf_76 rfl rfl ?_
                refine k_imul h_o dX7_faultOf_77 ?_
                refine k_iload h_o 4 dX7_faultOf_78 rfl ?_
                refine k_iadd h_o dX7_faultOf_80 ?_
                refine k_iald h_o 30 hmdq41.2.2.2.2.2.2.2.2.2.2.1 (by omega) (by decide) dX7_faultOf_81 ?_
                refine k_top (z' := acs x_o.toNat k_o.toNat) (by rw [show (100 * x_o + k_o).toNat = 100 * x_o.toNat + k_o.toNat by omega]; exact hacAx k_o.toNat (by omega)) ?_
                refine k_aload_n h_o 0 dX7_faultOf_82 rfl rfl ?_
                refine k_get h_o 19 kf_X7_50 hmdq41.1 rfl dX7_faultOf_83 ?_
                refine k_iload h_o 4 dX7_faultOf_86 rfl ?_
                refine k_iald h_o 38 hmdq41.2.2.2.2.2.2.2.2.2.2.2.2.2.2.1 (by omega) (by decide) dX7_faultOf_88 ?_
                refine k_icmp_ne h_o 96 (by have := hacx k_o.toNat; omega) (by have q1 := ht3 k_o.toNat (by omega); have q2 := (kOi_lay (lt := lts x_o.toNat) (O := kO0) hwf hnr hcx kOi_00).2.2.2 k_o.toNat; omega) dX7_faultOf_89 (by decide) (fun h89_o => ?_) (fun h89_o => ?_)
                · refine k_iconst h_o dX7_faultOf_96 ?_
                  refine k_istore_n (lv' := [(3, .int (iI 0)), (0, .ref (bd 25)), (1, .int (iI x_o)), (2, .int (iI ((m_TT g_o nr (lts x_o.toNat) 10 0 (cs x_o.toNat - 1) : Nat) : Int))), (4, .int (iI k_o))]) h_o dX7_faultOf_97 rfl (by decide) rfl ?_
                  refine k_iinc (lv' := [(4, .int (iI (k_o + 1))), (3, .int (iI 0)), (0, .ref (bd 25)), (1, .int (iI x_o)), (2, .int (iI ((m_TT g_o nr (lts x_o.toNat) 10 0 (cs x_o.toNat - 1) : Nat) : Int)))]) h_o 4 dX7_faultOf_98 rfl (by decide) rfl ?_
                  refine k_goto h_o 57 dX7_faultOf_101 (by decide) ?_
                  refine k_sub (lv' := [(0, .ref (bd 25)), (1, .int (iI x_o)), (2, .int (iI ((m_TT g_o nr (lts x_o.toNat) 10 0 (cs x_o.toNat - 1) : Nat) : Int))), (3, .int (iI 0)), (4, .int (iI (k_o + 1)))]) [2, 3, 4, 1, 0] rfl ?_
                  refine k_lv (lv' := [(0, .ref (bd 25)), (1, .int (iI x_o)), (2, .int (iI ((m_TT g_o nr (lts x_o.toNat) 10 0 (cs x_o.toNat - 1) : Nat) : Int))), (3, .int (iI (bI (ams x_o.toNat = tmq41 ∧ ∀ q_o : Nat, (q_o : Int) < k_o + 1 → acs x_o.toNat q_o = trq41 q_o)))), (4, .int (iI (k_o + 1)))]) (by rw [show bI (ams x_o.toNat = tmq41 ∧ ∀ q_o : Nat, (q_o : Int) < k_o + 1 → acs x_o.toNat q_o = trq41 q_o) = 0 from bI_f (fun q_o => h89_o (q_o.2 k_o.toNat (by omega)))]) ?_
                  exact ih57 (k_o + 1) (by omega) (by omega)
                · refine k_iconst h_o dX7_faultOf_92 ?_
                  refine k_goto h_o 97 dX7_faultOf_93 (by decide) ?_
                  refine k_istore_n (lv' := [(3, .int (iI 1)), (0, .ref (bd 25)), (1, .int (iI x_o)), (2, .int (iI ((m_TT g_o nr (lts x_o.toNat) 10 0 (cs x_o.toNat - 1) : Nat) : Int))), (4, .int (iI k_o))]) h_o dX7_faultOf_97 rfl (by decide) rfl ?_
                  refine k_iinc (lv' := [(4, .int (iI (k_o + 1))), (3, .int (iI 1)), (0, .ref (bd 25)), (1, .int (iI x_o)), (2, .int (iI ((m_TT g_o nr (lts x_o.toNat) 10 0 (cs x_o.toNat - 1) : Nat) : Int)))]) h_o 4 dX7_faultOf_98 rfl (by decide) rfl ?_
                  refine k_goto h_o 57 dX7_faultOf_101 (by decide) ?_
                  refine k_sub (lv' := [(0, .ref (bd 25)), (1, .int (iI x_o)), (2, .int (iI ((m_TT g_o nr (lts x_o.toNat) 10 0 (cs x_o.toNat - 1) : Nat) : Int))), (3, .int (iI 1)), (4, .int (iI (k_o + 1)))]) [2, 3, 4, 1, 0] rfl ?_
                  refine k_lv (lv' := [(0, .ref (bd 25)), (1, .int (iI x_o)), (2, .int (iI ((m_TT g_o nr (lts x_o.toNat) 10 0 (cs x_o.toNat - 1) : Nat) : Int))), (3, .int (iI (bI (ams x_o.toNat = tmq41 ∧ ∀ q_o : Nat, (q_o : Int) < k_o + 1 → acs x_o.toNat q_o = trq41 q_o)))), (4, .int (iI (k_o + 1)))]) (by rw [show bI (ams x_o.toNat = tmq41 ∧ ∀ q_o : Nat, (q_o : Int) < k_o + 1 → acs x_o.toNat q_o = trq41 q_o) = 1 from bI_t ⟨h67_o.1, m_all_step h67_o.2 hk.1 h89_o⟩]) ?_
                  exact ih57 (k_o + 1) (by omega) (by omega)
        refine k_sub (lv' := [(0, .ref (bd 25)), (1, .int (iI x_o)), (2, .int (iI ((m_TT g_o nr (lts x_o.toNat) 10 0 (cs x_o.toNat - 1) : Nat) : Int))), (3, .int (iI 0)), (4, .int (iI 0))]) [3, 4, 2, 1, 0] rfl ?_
        refine k_lv (lv' := [(0, .ref (bd 25)), (1, .int (iI x_o)), (2, .int (iI ((m_TT g_o nr (lts x_o.toNat) 10 0 (cs x_o.toNat - 1) : Nat) : Int))), (3, .int (iI (bI (ams x_o.toNat = tmq41 ∧ ∀ q_o : Nat, (q_o : Int) < 0 → acs x_o.toNat q_o = trq41 q_o)))), (4, .int (iI 0))]) (by rw [show bI (ams x_o.toNat = tmq41 ∧ ∀ q_o : Nat, (q_o : Int) < 0 → acs x_o.toNat q_o = trq41 q_o) = 0 from bI_f (fun q_o => h45_o q_o.1)]) ?_
        exact L57 ((tmq41 - 0 : Int).toNat + 1) 0 (by omega) (by omega)
      · refine k_iconst h_o dX7_faultOf_48 ?_
        refine k_goto h_o 53 dX7_faultOf_49 (by decide) ?_
        refine k_istore_n (lv' := [(3, .int (iI 1)), (2, .int (iI ((m_TT g_o nr (lts x_o.toNat) 10 0 (cs x_o.toNat - 1) : Nat) : Int))), (0, .ref (bd 25)), (1, .int (iI x_o))]) h_o dX7_faultOf_53 rfl (by decide) rfl ?_
        refine k_iconst h_o dX7_faultOf_54 ?_
        refine k_istore (lv' := [(4, .int (iI 0)), (3, .int (iI 1)), (2, .int (iI ((m_TT g_o nr (lts x_o.toNat) 10 0 (cs x_o.toNat - 1) : Nat) : Int))), (0, .ref (bd 25)), (1, .int (iI x_o))]) h_o dX7_faultOf_55 (by decide) rfl ?_
        have L57 : ∀ (mm : Nat) (k_o : Int), (0 ≤ k_o ∧ k_o ≤ tmq41) → (tmq41 - k_o < (mm : Int)) → kG E_o X_o 5 0 0 wq41 57 [(0, .ref (bd 25)), (1, .int (iI x_o)), (2, .int (iI ((m_TT g_o nr (lts x_o.toNat) 10 0 (cs x_o.toNat - 1) : Nat) : Int))), (3, .int (iI (bI (ams x_o.toNat = tmq41 ∧ ∀ q_o : Nat, (q_o : Int) < k_o → acs x_o.toNat q_o = trq41 q_o)))), (4, .int (iI k_o))] [] := by
          intro mm
          induction mm with
          | zero =>
            intro k_o hk hm_o
            exfalso; omega
          | succ mm ih57 =>
            intro k_o hk hm_o
            refine k_iload h_o 4 dX7_faultOf_57 rfl ?_
            refine k_aload_n h_o 0 dX7_faultOf_59 rfl rfl ?_
            refine k_get h_o 19 kf_X7_115 hmdq41.1 rfl dX7_faultOf_60 ?_
            refine k_icmp_ge h_o 104 (by omega) (by omega) dX7_faultOf_63 (by decide) (fun h63_o => ?_) (fun h63_o => ?_)
            · refine k_iload_n h_o 3 dX7_faultOf_104 rfl rfl ?_
              refine k_ifBeq h_o 113 dX7_faultOf_105 (by decide) (fun h105_o => ?_) (fun h105_o => ?_)
              · refine k_bipush h_o dX7_faultOf_113 (by decide) ?_
                exact k_iret h_o hr rfl (⟨_, rfl, (by unfold m_fv; rw [if_neg (by omega), if_neg (by omega), if_neg (by omega), if_neg (fun z_o => h105_o ⟨by omega, fun q_o hq => (z_o.2 q_o (by omega)).trans (ht3 q_o (by omega)).symm⟩)]), cs x_o.toNat, rxq41, Nq41, tmq41, trq41, shq41, sgq41, smq41, dpq41, hmdq41, hrxq41, hNq41, (fun x_o hx => (hexq41 x_o hx))⟩) (by omega) (by omega) dX7_faultOf_115
              · refine k_bipush h_o dX7_faultOf_108 (by decide) ?_
                refine k_goto h_o 115 dX7_faultOf_110 (by decide) ?_
                exact k_iret h_o hr rfl (⟨_, rfl, (by unfold m_fv; rw [if_neg (by omega), if_neg (by omega), if_neg (by omega), if_pos ⟨by omega, fun q_o hq => (h105_o.2 q_o (by omega)).trans (ht3 q_o (by omega))⟩]), cs x_o.toNat, rxq41, Nq41, tmq41, trq41, shq41, sgq41, smq41, dpq41, hmdq41, hrxq41, hNq41, (fun x_o hx => (hexq41 x_o hx))⟩) (by omega) (by omega) dX7_faultOf_115
            · refine k_iload_n h_o 3 dX7_faultOf_66 rfl rfl ?_
              refine k_ifBeq h_o 104 dX7_faultOf_67 (by decide) (fun h67_o => ?_) (fun h67_o => ?_)
              · refine k_iload_n h_o 3 dX7_faultOf_104 rfl rfl ?_
                refine k_ifBeq h_o 113 dX7_faultOf_105 (by decide) (fun h105_o => ?_) (fun h105_o => ?_)
                · refine k_bipush h_o dX7_faultOf_113 (by decide) ?_
                  exact k_iret h_o hr rfl (⟨_, rfl, (by unfold m_fv; rw [if_neg (by omega), if_neg (by omega), if_neg (by omega), if_neg (fun z_o => h105_o ⟨by omega, fun q_o hq => (z_o.2 q_o (by omega)).trans (ht3 q_o (by omega)).symm⟩)]), cs x_o.toNat, rxq41, Nq41, tmq41, trq41, shq41, sgq41, smq41, dpq41, hmdq41, hrxq41, hNq41, (fun x_o hx => (hexq41 x_o hx))⟩) (by omega) (by omega) dX7_faultOf_115
                · exfalso; exact h67_o h105_o
              · refine k_aload_n h_o 0 dX7_faultOf_70 rfl rfl ?_
                refine k_get h_o 19 kf_X7_38 hmdq41.1 rfl dX7_faultOf_71 ?_
                refine k_bipush h_o dX7_faultOf_74 (by decide) ?_
                refine k_iload_n h_o 1 dX7_faultOf_76 rfl rfl ?_
                refine k_imul h_o dX7_faultOf_77 ?_
                refine k_iload h_o 4 dX7_faultOf_78 rfl ?_
                refine k_iadd h_o dX7_faultOf_80 ?_
                refine k_iald h_o 30 hmdq41.2.2.2.2.2.2.2.2.2.2.1 (by omega) (by decide) dX7_faultOf_81 ?_
                refine k_top (z' := acs x_o.toNat k_o.toNat) (by rw [show (100 * x_o + k_o).toNat = 100 * x_o.toNat + k_o.toNat by omega]; exact hacAx k_o.toNat (by omega)) ?_
                refine k_aload_n h_o 0 dX7_faultOf_82 rfl rfl ?_
                refine k_get h_o 19 kf_X7_50 hmdq41.1 rfl dX7_faultOf_83 ?_
                refine k_iload h_o 4 dX7_faultOf_86 rfl ?_
                refine k_iald h_o 38 hmdq41.2.2.2.2.2.2.2.2.2.2.2.2.2.2.1 (by omega) (by decide) dX7_faultOf_88 ?_
                refine k_icmp_ne h_o 96 (by have := hacx k_o.toNat; omega) (by have q1 := ht3 k_o.toNat (by omega); have q2 := (kOi_lay (lt := lts x_o.toNat) (O := kO0) hwf hnr hcx kOi_00).2.2.2 k_o.toNat; omega) dX7_faultOf_89 (by decide) (fun h89_o => ?_) (fun h89_o => ?_)
                · refine k_iconst h_o dX7_faultOf_96 ?_
                  refine k_istore_n (lv' := [(3, .int (iI 0)), (0, .ref (bd 25)), (1, .int (iI x_o)), (2, .int (iI ((m_TT g_o nr (lts x_o.toNat) 10 0 (cs x_o.toNat - 1) : Nat) : Int))), (4, .int (iI k_o))]) h_o dX7_faultOf_97 rfl (by decide) rfl ?_
                  refine k_iinc (lv' := [(4, .int (iI (k_o + 1))), (3, .int (iI 0)), (0, .ref (bd 25)), (1, .int (iI x_o)), (2, .int (iI ((m_TT g_o nr (lts x_o.toNat) 10 0 (cs x_o.toNat - 1) : Nat) : Int)))]) h_o 4 dX7_faultOf_98 rfl (by decide) rfl ?_
                  refine k_goto h_o 57 dX7_faultOf_101 (by decide) ?_
                  refine k_sub (lv' := [(0, .ref (bd 25)), (1, .int (iI x_o)), (2, .int (iI ((m_TT g_o nr (lts x_o.toNat) 10 0 (cs x_o.toNat - 1) : Nat) : Int))), (3, .int (iI 0)), (4, .int (iI (k_o + 1)))]) [2, 3, 4, 1, 0] rfl ?_
                  refine k_lv (lv' := [(0, .ref (bd 25)), (1, .int (iI x_o)), (2, .int (iI ((m_TT g_o nr (lts x_o.toNat) 10 0 (cs x_o.toNat - 1) : Nat) : Int))), (3, .int (iI (bI (ams x_o.toNat = tmq41 ∧ ∀ q_o : Nat, (q_o : Int) < k_o + 1 → acs x_o.toNat q_o = trq41 q_o)))), (4, .int (iI (k_o + 1)))]) (by rw [show bI (ams x_o.toNat = tmq41 ∧ ∀ q_o : Nat, (q_o : Int) < k_o + 1 → acs x_o.toNat q_o = trq41 q_o) = 0 from bI_f (fun q_o => h89_o (q_o.2 k_o.toNat (by omega)))]) ?_
                  exact ih57 (k_o + 1) (by omega) (by omega)
                · refine k_iconst h_o dX7_faultOf_92 ?_
                  refine k_goto h_o 97 dX7_faultOf_93 (by decide) ?_
                  refine k_istore_n (lv' := [(3, .int (iI 1)), (0, .ref (bd 25)), (1, .int (iI x_o)), (2, .int (iI ((m_TT g_o nr (lts x_o.toNat) 10 0 (cs x_o.toNat - 1) : Nat) : Int))), (4, .int (iI k_o))]) h_o dX7_faultOf_97 rfl (by decide) rfl ?_
                  refine k_iinc (lv' := [(4, .int (iI (k_o + 1))), (3, .int (iI 1)), (0, .ref (bd 25)), (1, .int (iI x_o)), (2, .int (iI ((m_TT g_o nr (lts x_o.toNat) 10 0 (cs x_o.toNat - 1) : Nat) : Int)))]) h_o 4 dX7_faultOf_98 rfl (by decide) rfl ?_
                  refine k_goto h_o 57 dX7_faultOf_101 (by decide) ?_
                  refine k_sub (lv' := [(0, .ref (bd 25)), (1, .int (iI x_o)), (2, .int (iI ((m_TT g_o nr (lts x_o.toNat) 10 0 (cs x_o.toNat - 1) : Nat) : Int))), (3, .int (iI 1)), (4, .int (iI (k_o + 1)))]) [2, 3, 4, 1, 0] rfl ?_
                  refine k_lv (lv' := [(0, .ref (bd 25)), (1, .int (iI x_o)), (2, .int (iI ((m_TT g_o nr (lts x_o.toNat) 10 0 (cs x_o.toNat - 1) : Nat) : Int))), (3, .int (iI (bI (ams x_o.toNat = tmq41 ∧ ∀ q_o : Nat, (q_o : Int) < k_o + 1 → acs x_o.toNat q_o = trq41 q_o)))), (4, .int (iI (k_o + 1)))]) (by rw [show bI (ams x_o.toNat = tmq41 ∧ ∀ q_o : Nat, (q_o : Int) < k_o + 1 → acs x_o.toNat q_o = trq41 q_o) = 1 from bI_t ⟨h67_o.1, m_all_step h67_o.2 hk.1 h89_o⟩]) ?_
                  exact ih57 (k_o + 1) (by omega) (by omega)
        refine k_sub (lv' := [(0, .ref (bd 25)), (1, .int (iI x_o)), (2, .int (iI ((m_TT g_o nr (lts x_o.toNat) 10 0 (cs x_o.toNat - 1) : Nat) : Int))), (3, .int (iI 1)), (4, .int (iI 0))]) [3, 4, 2, 1, 0] rfl ?_
        refine k_lv (lv' := [(0, .ref (bd 25)), (1, .int (iI x_o)), (2, .int (iI ((m_TT g_o nr (lts x_o.toNat) 10 0 (cs x_o.toNat - 1) : Nat) : Int))), (3, .int (iI (bI (ams x_o.toNat = tmq41 ∧ ∀ q_o : Nat, (q_o : Int) < 0 → acs x_o.toNat q_o = trq41 q_o)))), (4, .int (iI 0))]) (by rw [show bI (ams x_o.toNat = tmq41 ∧ ∀ q_o : Nat, (q_o : Int) < 0 → acs x_o.toNat q_o = trq41 q_o) = 1 from bI_t ⟨h45_o, fun q_o hq => by omega⟩]) ?_
        exact L57 ((tmq41 - 0 : Int).toNat + 1) 0 (by omega) (by omega)
    · refine k_bipush h_o dX7_faultOf_32 (by decide) ?_
      exact k_iret h_o hr rfl (⟨_, rfl, (by unfold m_fv; rw [if_neg (by omega), if_neg (by omega), if_pos (by omega)]), cs x_o.toNat, rxq41, Nq41, tmq41, trq41, shq41, sgq41, smq41, dpq41, hmdq41, hrxq41, hNq41, (fun x_o hx => (hexq41 x_o hx))⟩) (by omega) (by omega) dX7_faultOf_34
  · refine k_iload_n h_o 0 dX7_faultOf_11 rfl rfl ?_
    refine k_ifne h_o 20 (m_natrg m_TT_le) dX7_faultOf_12 (by decide) (fun h12_o => ?_) (fun h12_o => ?_)
    · refine k_bipush h_o dX7_faultOf_20 (by decide) ?_
      exact k_iret h_o hr rfl (⟨_, rfl, (by unfold m_fv; rw [if_neg (by omega), if_pos (by omega)]), cs x_o.toNat, rxq41, Nq41, tmq41, trq41, shq41, sgq41, smq41, dpq41, hmdq41, hrxq41, hNq41, (fun x_o hx => (hexq41 x_o hx))⟩) (by omega) (by omega) dX7_faultOf_22
    · refine k_bipush h_o dX7_faultOf_15 (by decide) ?_
      refine k_goto h_o 22 dX7_faultOf_17 (by decide) ?_
      exact k_iret h_o hr rfl (⟨_, rfl, (by unfold m_fv; rw [if_pos (by omega)]), cs x_o.toNat, rxq41, Nq41, tmq41, trq41, shq41, sgq41, smq41, dpq41, hmdq41, hrxq41, hNq41, (fun x_o hx => (hexq41 x_o hx))⟩) (by omega) (by omega) dX7_faultOf_22

set_option maxHeartbeats 4000000 in
set_option maxRecDepth 100000 in
theorem c_X7_fault {E_o : kE} {l_o : Launch} (hl0 : l_o.stackTraces = false) {w_o : kW} {bd : Nat → Nat} {nr : Nat} {g_o : Nat → Nat → Int} {T_o : Nat} {lts : Nat → Nat → Int} {cs : Nat → Int} {acs : Nat → Nat → Int} {ams : Nat → Int} {rel fnd th : Int} {x_o : Int} (hst : kMu w_o bd nr g_o T_o lts cs acs ams rel fnd th) (hx : -2147483648 ≤ x_o ∧ x_o < 2147483648) : kM E_o l_o yX7_fault (.code yX7_fault cX7_fault 2 (some .char) :: kAL) { frames := 302, cells := 0, slots := 0, locals := 6047 } 0 0 [.ref (bd 25), .int (iI x_o)] w_o (pI (fun z_o w2_o => ((0 ≤ x_o ∧ x_o < ((T_o : Nat) : Int)) ∧ m_fv g_o nr (lts x_o.toNat) (cs x_o.toNat) (acs x_o.toNat) (ams x_o.toNat) = z_o ∧ kMv w_o w2_o bd nr g_o T_o lts cs acs ams rel fnd 0) ∨ (¬ (0 ≤ x_o ∧ x_o < ((T_o : Nat) : Int)) ∧ kMv w_o w2_o bd nr g_o T_o lts cs acs ams rel fnd 1))) := by
  refine kM_of hl0 (by decide +kernel) (Nat.le_of_ble_eq_true rfl) ?_
  intro X_o hXl h_o hr hin
  subst hXl
  obtain ⟨ltA, acA, mnA, sz, rx, N_o, tm, tr, sh, sg, sm, dp, hmd, hI, hrx, hN_o⟩ := hst
  obtain ⟨hwf, hnr, hT6, hmn, hg0, htx⟩ := id hI
  show kG E_o X_o 2 0 0 w_o 0 [(0, .ref (bd 25)), (1, .int (iI x_o))] []
  refine k_aload_n h_o 0 dX7_fault_0 rfl rfl ?_
  refine k_iload_n h_o 1 dX7_fault_1 rfl rfl ?_
  refine k_callV (As := [.int (iI x_o)]) (rest := []) h_o mX7_asks kq_5_59 (c_X7_asks hl0 hmd hT6 (by omega)) 19 hmd.1 rfl rfl rfl (Nat.le_of_ble_eq_true rfl) ⟨rfl, rfl, ⟨(Nat.le_of_ble_eq_true rfl), (Nat.le_of_ble_eq_true rfl)⟩, ⟨(Nat.le_of_ble_eq_true rfl), (Nat.le_of_ble_eq_true rfl)⟩⟩ dX7_fault_2 (kcI fun zq42 wq42 hp => ?_)
  rcases hp with ⟨hxT, rfl, hmdq42, hexq42⟩ | ⟨hxT, rfl, hmdq42, hexq42⟩
  · refine k_ifeq h_o 16 (by decide) dX7_fault_5 (by decide) (fun h5_o => ?_) (fun h5_o => ?_)
    · exfalso; omega
    · refine k_aload_n h_o 0 dX7_fault_8 rfl rfl ?_
      refine k_iload_n h_o 1 dX7_fault_9 rfl rfl ?_
      refine k_callV (As := [.int (iI x_o)]) (rest := []) h_o mX7_faultOf kq_5_135 (c_X7_faultOf hl0 hmdq42 hI hrx hN_o (by omega)) 19 hmdq42.1 rfl rfl rfl (Nat.le_of_ble_eq_true rfl) ⟨rfl, rfl, ⟨(Nat.le_of_ble_eq_true rfl), (Nat.le_of_ble_eq_true rfl)⟩, ⟨(Nat.le_of_ble_eq_true rfl), (Nat.le_of_ble_eq_true rfl)⟩⟩ dX7_fault_10 (kcI fun z10_o wq43 hp => ?_)
      obtain ⟨rfl, szq43, rxq43, Nq43, tmq43, trq43, shq43, sgq43, smq43, dpq43, hmdq43, hrxq43, hNq43, hexq43⟩ := hp
      refine k_goto h_o 18 dX7_fault_13 (by decide) ?_
      have hmdZ : (kMd wq43 bd nr g_o T_o cs ams ltA acA mnA rel fnd szq43 rxq43 Nq43 tmq43 trq43 shq43 sgq43 smq43 dpq43 0) := ⟨hmdq43.1, hmdq43.2.1, hmdq43.2.2.1, hmdq43.2.2.2.1, hmdq43.2.2.2.2.1, hmdq43.2.2.2.2.2.1, hmdq43.2.2.2.2.2.2.1, hmdq43.2.2.2.2.2.2.2.1, hmdq43.2.2.2.2.2.2.2.2.1, hmdq43.2.2.2.2.2.2.2.2.2.1, hmdq43.2.2.2.2.2.2.2.2.2.2.1, hmdq43.2.2.2.2.2.2.2.2.2.2.2.1, hmdq43.2.2.2.2.2.2.2.2.2.2.2.2.1, hmdq43.2.2.2.2.2.2.2.2.2.2.2.2.2.1, hmdq43.2.2.2.2.2.2.2.2.2.2.2.2.2.2.1, hmdq43.2.2.2.2.2.2.2.2.2.2.2.2.2.2.2.1, hmdq43.2.2.2.2.2.2.2.2.2.2.2.2.2.2.2.2⟩
      exact k_iret h_o hr (iI_chn m_fv_rg) (⟨_, rfl, Or.inl ⟨hxT, rfl, ⟨⟨_, _, _, _, _, _, _, _, _, _, _, _, hmdZ, hI, hrxq43, hNq43⟩, (fun x_o hx => ((hexq43 x_o hx).trans (hexq42 x_o hx)))⟩⟩⟩) (by omega) (by omega) dX7_fault_18
  · refine k_ifeq h_o 16 (by decide) dX7_fault_5 (by decide) (fun h5_o => ?_) (fun h5_o => ?_)
    · refine k_bipush h_o dX7_fault_16 (by decide) ?_
      have hmdZ : (kMd wq42 bd nr g_o T_o cs ams ltA acA mnA rel fnd sz rx N_o tm tr sh sg sm dp 1) := ⟨hmdq42.1, hmdq42.2.1, hmdq42.2.2.1, hmdq42.2.2.2.1, hmdq42.2.2.2.2.1, hmdq42.2.2.2.2.2.1, hmdq42.2.2.2.2.2.2.1, hmdq42.2.2.2.2.2.2.2.1, hmdq42.2.2.2.2.2.2.2.2.1, hmdq42.2.2.2.2.2.2.2.2.2.1, hmdq42.2.2.2.2.2.2.2.2.2.2.1, hmdq42.2.2.2.2.2.2.2.2.2.2.2.1, hmdq42.2.2.2.2.2.2.2.2.2.2.2.2.1, hmdq42.2.2.2.2.2.2.2.2.2.2.2.2.2.1, hmdq42.2.2.2.2.2.2.2.2.2.2.2.2.2.2.1, hmdq42.2.2.2.2.2.2.2.2.2.2.2.2.2.2.2.1, hmdq42.2.2.2.2.2.2.2.2.2.2.2.2.2.2.2.2⟩
      exact k_iret h_o hr rfl (⟨_, rfl, Or.inr ⟨hxT, ⟨⟨_, _, _, _, _, _, _, _, _, _, _, _, hmdZ, hI, hrx, hN_o⟩, (fun x_o hx => (hexq42 x_o hx))⟩⟩⟩) (by omega) (by omega) dX7_fault_18
    · exfalso; omega

set_option maxHeartbeats 4000000 in
set_option maxRecDepth 100000 in
theorem c_X7_clean {E_o : kE} {l_o : Launch} (hl0 : l_o.stackTraces = false) {w_o : kW} {bd : Nat → Nat} {nr : Nat} {g_o : Nat → Nat → Int} {T_o : Nat} {lts : Nat → Nat → Int} {cs : Nat → Int} {acs : Nat → Nat → Int} {ams : Nat → Int} {rel fnd th : Int} (hst : kMu w_o bd nr g_o T_o lts cs acs ams rel fnd th) : kM E_o l_o yX7_clean (.code yX7_clean cX7_clean 3 (some .int) :: kAL) { frames := 302, cells := 0, slots := 0, locals := 6047 } 0 0 [.ref (bd 25)] w_o (pI (fun z_o w2_o => m_tc (fun t_o => t_o < T_o ∧ m_fv g_o nr (lts t_o) (cs t_o) (acs t_o) (ams t_o) = 45) 6 = z_o ∧ kMv w_o w2_o bd nr g_o T_o lts cs acs ams rel fnd th)) := by
  refine kM_of hl0 (by decide +kernel) (Nat.le_of_ble_eq_true rfl) ?_
  intro X_o hXl h_o hr hin
  subst hXl
  obtain ⟨ltA, acA, mnA, sz, rx, N_o, tm, tr, sh, sg, sm, dp, hmd, hI, hrx, hN_o⟩ := hst
  obtain ⟨hwf, hnr, hT6, hmn, hg0, htx⟩ := id hI
  show kG E_o X_o 3 0 0 w_o 0 [(0, .ref (bd 25))] []
  refine k_iconst h_o dX7_clean_0 ?_
  refine k_istore_n (lv' := [(1, .int (iI 0)), (0, .ref (bd 25))]) h_o dX7_clean_1 rfl (by decide) rfl ?_
  refine k_iconst h_o dX7_clean_2 ?_
  refine k_istore_n (lv' := [(2, .int (iI 0)), (1, .int (iI 0)), (0, .ref (bd 25))]) h_o dX7_clean_3 rfl (by decide) rfl ?_
  have L4 : ∀ (mm : Nat) (y_o : Int) (w8_o : kW), (0 ≤ y_o ∧ y_o ≤ ((T_o : Nat) : Int)) → (kMu w8_o bd nr g_o T_o lts cs acs ams rel fnd th) → (kEx w_o w8_o kMk) → ((T_o : Nat) : Int) - y_o < (mm : Int) → kG E_o X_o 3 0 0 w8_o 4 [(0, .ref (bd 25)), (1, .int (iI (m_tc (fun t_o => m_fv g_o nr (lts t_o) (cs t_o) (acs t_o) (ams t_o) = 45) (y_o).toNat))), (2, .int (iI y_o))] [] := by
    intro mm
    induction mm with
    | zero =>
      intro y_o w8_o hy hst8 hx8 hm_o
      exfalso; omega
    | succ mm ih4 =>
      intro y_o w8_o hy hst8 hx8 hm_o
      have hst9 := hst8
      obtain ⟨ltA, acA, mnA, sz, rx, N_o, tm, tr, sh, sg, sm, dp, hmd8, hI8, hrx8, hN8⟩ := hst8
      refine k_iload_n h_o 2 dX7_clean_4 rfl rfl ?_
      refine k_aload_n h_o 0 dX7_clean_5 rfl rfl ?_
      refine k_get h_o 19 kf_X7_134 hmd8.1 rfl dX7_clean_6 ?_
      refine k_icmp_ge h_o 36 (by omega) (by omega) dX7_clean_9 (by decide) (fun h9_o => ?_) (fun h9_o => ?_)
      · refine k_iload_n h_o 1 dX7_clean_36 rfl rfl ?_
        exact k_iret h_o hr rfl (⟨_, rfl, (by rw [m_tc_T (P := (fun t_o => m_fv g_o nr (lts t_o) (cs t_o) (acs t_o) (ams t_o) = 45)) 6 hT6, show y_o.toNat = T_o by omega]), hst9, hx8⟩) (by omega) (by omega) dX7_clean_37
      · refine k_iload_n h_o 1 dX7_clean_12 rfl rfl ?_
        refine k_aload_n h_o 0 dX7_clean_13 rfl rfl ?_
        refine k_iload_n h_o 2 dX7_clean_14 rfl rfl ?_
        refine k_callV (As := [.int (iI y_o)]) (rest := [.int (iI (m_tc (fun t_o => m_fv g_o nr (lts t_o) (cs t_o) (acs t_o) (ams t_o) = 45) (y_o).toNat))]) h_o mX7_faultOf kq_5_135 (c_X7_faultOf hl0 hmd8 hI8 hrx8 hN8 (by omega)) 19 hmd8.1 rfl rfl rfl (Nat.le_of_ble_eq_true rfl) ⟨rfl, rfl, ⟨(Nat.le_of_ble_eq_true rfl), (Nat.le_of_ble_eq_true rfl)⟩, ⟨(Nat.le_of_ble_eq_true rfl), (Nat.le_of_ble_eq_true rfl)⟩⟩ dX7_clean_15 (kcI fun z15_o wq44 hp => ?_)
        obtain ⟨rfl, szq44, rxq44, Nq44, tmq44, trq44, shq44, sgq44, smq44, dpq44, hmdq44, hrxq44, hNq44, hexq44⟩ := hp
        refine k_bipush h_o dX7_clean_18 (by decide) ?_
        refine k_icmp_ne h_o 27 (by have := m_fv_rg (g := g_o) (nr := nr) (lt := lts y_o.toNat) (c := cs y_o.toNat) (ac := acs y_o.toNat) (am := ams y_o.toNat); omega) (by decide) dX7_clean_20 (by decide) (fun h20_o => ?_) (fun h20_o => ?_)
        · refine k_iconst h_o dX7_clean_27 ?_
          refine k_iadd h_o dX7_clean_28 ?_
          refine k_istore_n (lv' := [(1, .int (iI ((m_tc (fun t_o => m_fv g_o nr (lts t_o) (cs t_o) (acs t_o) (ams t_o) = 45) (y_o).toNat) + 0))), (0, .ref (bd 25)), (2, .int (iI y_o))]) h_o dX7_clean_29 rfl (by decide) rfl ?_
          refine k_iinc (lv' := [(2, .int (iI (y_o + 1))), (1, .int (iI ((m_tc (fun t_o => m_fv g_o nr (lts t_o) (cs t_o) (acs t_o) (ams t_o) = 45) (y_o).toNat) + 0))), (0, .ref (bd 25))]) h_o 2 dX7_clean_30 rfl (by decide) rfl ?_
          refine k_goto h_o 4 dX7_clean_33 (by decide) ?_
          refine k_sub (lv' := [(0, .ref (bd 25)), (1, .int (iI ((m_tc (fun t_o => m_fv g_o nr (lts t_o) (cs t_o) (acs t_o) (ams t_o) = 45) (y_o).toNat) + 0))), (2, .int (iI (y_o + 1)))]) [2, 1, 0] rfl ?_
          refine k_lv (lv' := [(0, .ref (bd 25)), (1, .int (iI (m_tc (fun t_o => m_fv g_o nr (lts t_o) (cs t_o) (acs t_o) (ams t_o) = 45) (y_o + 1).toNat))), (2, .int (iI (y_o + 1)))]) (by rw [m_tc_f (P := (fun t_o => m_fv g_o nr (lts t_o) (cs t_o) (acs t_o) (ams t_o) = 45)) hy.1 (by omega), Int.add_zero]) ?_
          exact ih4 (y_o + 1) wq44 (by omega) (⟨_, _, _, _, _, _, _, _, _, _, _, _, hmdq44, hI8, hrxq44, hNq44⟩) (fun x_o hx => ((hexq44 x_o hx).trans (hx8 x_o hx))) (by omega)
        · refine k_iconst h_o dX7_clean_23 ?_
          refine k_goto h_o 28 dX7_clean_24 (by decide) ?_
          refine k_iadd h_o dX7_clean_28 ?_
          refine k_istore_n (lv' := [(1, .int (iI ((m_tc (fun t_o => m_fv g_o nr (lts t_o) (cs t_o) (acs t_o) (ams t_o) = 45) (y_o).toNat) + 1))), (0, .ref (bd 25)), (2, .int (iI y_o))]) h_o dX7_clean_29 rfl (by decide) rfl ?_
          refine k_iinc (lv' := [(2, .int (iI (y_o + 1))), (1, .int (iI ((m_tc (fun t_o => m_fv g_o nr (lts t_o) (cs t_o) (acs t_o) (ams t_o) = 45) (y_o).toNat) + 1))), (0, .ref (bd 25))]) h_o 2 dX7_clean_30 rfl (by decide) rfl ?_
          refine k_goto h_o 4 dX7_clean_33 (by decide) ?_
          refine k_sub (lv' := [(0, .ref (bd 25)), (1, .int (iI ((m_tc (fun t_o => m_fv g_o nr (lts t_o) (cs t_o) (acs t_o) (ams t_o) = 45) (y_o).toNat) + 1))), (2, .int (iI (y_o + 1)))]) [2, 1, 0] rfl ?_
          refine k_lv (lv' := [(0, .ref (bd 25)), (1, .int (iI (m_tc (fun t_o => m_fv g_o nr (lts t_o) (cs t_o) (acs t_o) (ams t_o) = 45) (y_o + 1).toNat))), (2, .int (iI (y_o + 1)))]) (by rw [m_tc_t (P := (fun t_o => m_fv g_o nr (lts t_o) (cs t_o) (acs t_o) (ams t_o) = 45)) hy.1 (by omega)]) ?_
          exact ih4 (y_o + 1) wq44 (by omega) (⟨_, _, _, _, _, _, _, _, _, _, _, _, hmdq44, hI8, hrxq44, hNq44⟩) (fun x_o hx => ((hexq44 x_o hx).trans (hx8 x_o hx))) (by omega)
  refine k_sub (lv' := [(0, .ref (bd 25)), (1, .int (iI 0)), (2, .int (iI 0))]) [2, 1, 0] rfl ?_
  refine k_lv (lv' := [(0, .ref (bd 25)), (1, .int (iI (m_tc (fun t_o => m_fv g_o nr (lts t_o) (cs t_o) (acs t_o) (ams t_o) = 45) (0 : Int).toNat))), (2, .int (iI 0))]) (by rw [show m_tc (fun t_o => m_fv g_o nr (lts t_o) (cs t_o) (acs t_o) (ams t_o) = 45) (0 : Int).toNat = 0 from rfl]) ?_
  exact L4 ((((T_o : Nat) : Int) - 0 : Int).toNat + 1) 0 w_o (by omega) (⟨ltA, acA, mnA, sz, rx, N_o, tm, tr, sh, sg, sm, dp, hmd, hI, hrx, hN_o⟩) kEx.rfl (by omega)

set_option maxHeartbeats 4000000 in
set_option maxRecDepth 100000 in
theorem c_X7_release {E_o : kE} {l_o : Launch} (hl0 : l_o.stackTraces = false) {w_o : kW} {bd : Nat → Nat} {nr : Nat} {g_o : Nat → Nat → Int} {T_o : Nat} {lts : Nat → Nat → Int} {cs : Nat → Int} {acs : Nat → Nat → Int} {ams : Nat → Int} {rel fnd th : Int}  (hst : kMu w_o bd nr g_o T_o lts cs acs ams rel fnd th)  : kM E_o l_o yX7_release (.code yX7_release cX7_release 1 (some .int) :: kAL) { frames := 303, cells := 0, slots := 0, locals := 6069 } 0 0 [.ref (bd 25)] w_o (pI (fun z_o w2_o => ((T_o ≠ 0 ∧ m_tc (fun t_o => t_o < T_o ∧ m_fv g_o nr (lts t_o) (cs t_o) (acs t_o) (ams t_o) = 45) 6 = ((T_o : Nat) : Int)) ∧ rel + 1 = z_o ∧ kMv w_o w2_o bd nr g_o T_o lts cs acs ams (rel + 1) fnd 0) ∨ (T_o = 0 ∧ kMv w_o w2_o bd nr g_o T_o lts cs acs ams rel fnd 1) ∨ ((T_o ≠ 0 ∧ m_tc (fun t_o => t_o < T_o ∧ m_fv g_o nr (lts t_o) (cs t_o) (acs t_o) (ams t_o) = 45) 6 ≠ ((T_o : Nat) : Int)) ∧ kMv w_o w2_o bd nr g_o T_o lts cs acs ams rel fnd 2))) := by
  refine kM_of hl0 (by decide +kernel) (Nat.le_of_ble_eq_true rfl) ?_
  intro X_o hXl h_o hr hin
  subst hXl
  obtain ⟨ltA, acA, mnA, sz, rx, N_o, tm, tr, sh, sg, sm, dp, hmd, hI, hrx, hN_o⟩ := hst
  obtain ⟨hwf, hnr, hT6, hmn, hg0, htx⟩ := id hI
  show kG E_o X_o 1 0 0 w_o 0 [(0, .ref (bd 25))] []
  refine k_aload_n h_o 0 dX7_release_0 rfl rfl ?_
  refine k_aload_n h_o 0 dX7_release_1 rfl rfl ?_
  refine k_get h_o 19 kf_X7_134 hmd.1 rfl dX7_release_2 ?_
  refine k_ifne h_o 12 (by omega) dX7_release_5 (by decide) (fun h5_o => ?_) (fun h5_o => ?_)
  · refine k_aload_n h_o 0 dX7_release_12 rfl rfl ?_
    refine k_callV (As := []) (rest := [.ref (bd 25)]) h_o mX7_clean kq_5_143 (c_X7_clean hl0 ⟨ltA, acA, mnA, sz, rx, N_o, tm, tr, sh, sg, sm, dp, hmd, hI, hrx, hN_o⟩) 19 hmd.1 rfl rfl rfl (Nat.le_of_ble_eq_true rfl) ⟨rfl, rfl, ⟨(Nat.le_of_ble_eq_true rfl), (Nat.le_of_ble_eq_true rfl)⟩, ⟨(Nat.le_of_ble_eq_true rfl), (Nat.le_of_ble_eq_true rfl)⟩⟩ dX7_release_13 (kcI fun z13_o wq45 hp => ?_)
    obtain ⟨rfl, ⟨ltAq45, acAq45, mnAq45, szq45, rxq45, Nq45, tmq45, trq45, shq45, sgq45, smq45, dpq45, hmdq45, hIq45, hrxq45, hNq45⟩, hexq45⟩ := hp
    have htc := m_tc_le (P := (fun t_o => m_fv g_o nr (lts t_o) (cs t_o) (acs t_o) (ams t_o) = 45)) hT6
    refine k_aload_n h_o 0 dX7_release_16 rfl rfl ?_
    refine k_get h_o 19 kf_X7_134 hmdq45.1 rfl dX7_release_17 ?_
    refine k_icmp_ge h_o 27 (by have := m_tc_le (P := (fun t_o => m_fv g_o nr (lts t_o) (cs t_o) (acs t_o) (ams t_o) = 45)) hT6; omega) (by omega) dX7_release_20 (by decide) (fun h20_o => ?_) (fun h20_o => ?_)
    · refine k_iconst h_o dX7_release_27 ?_
      refine k_put (fs' := [.ref (bd 0), .ref (bd 1), .ref (bd 2), .ref (bd 3), .ref (bd 4), .ref (bd 5), .ref (bd 6), .int (iI ((nr : Nat) : Int)), .ref (bd 8), .ref (bd 9), .ref (bd 10), .ref (bd 11), .int (iI ((T_o : Nat) : Int)), .long (lI fnd), .int (iI rel), .ref (bd 15), .int (iI szq45), .ref (bd 17), .ref (bd 18), .int (iI tmq45), .ref (bd 20), .ref (bd 21), .int (iI smq45), .int (iI dpq45), .int (iI 0)]) h_o 19 kf_X7_60 kt_X7_24 hmdq45.1 rfl rfl (Nat.le_of_ble_eq_true rfl) rfl dX7_release_28 ?_
      refine k_aload_n h_o 0 dX7_release_31 rfl rfl ?_
      refine k_get h_o 19 kf_X7_60 kset_eq rfl dX7_release_32 ?_
      refine k_ifle h_o 40 (by decide) dX7_release_35 (by decide) (fun h35_o => ?_) (fun h35_o => ?_)
      · refine k_aload_n h_o 0 dX7_release_40 rfl rfl ?_
        refine k_dup h_o dX7_release_41 rfl ?_
        refine k_get h_o 19 kf_X7_175 kset_eq rfl dX7_release_42 ?_
        refine k_iconst h_o dX7_release_45 ?_
        refine k_iadd h_o dX7_release_46 ?_
        refine k_put (fs' := [.ref (bd 0), .ref (bd 1), .ref (bd 2), .ref (bd 3), .ref (bd 4), .ref (bd 5), .ref (bd 6), .int (iI ((nr : Nat) : Int)), .ref (bd 8), .ref (bd 9), .ref (bd 10), .ref (bd 11), .int (iI ((T_o : Nat) : Int)), .long (lI fnd), .int (iI (rel + 1)), .ref (bd 15), .int (iI szq45), .ref (bd 17), .ref (bd 18), .int (iI tmq45), .ref (bd 20), .ref (bd 21), .int (iI smq45), .int (iI dpq45), .int (iI 0)]) h_o 19 kf_X7_175 kt_X7_14 kset_eq rfl rfl (Nat.le_of_ble_eq_true rfl) rfl dX7_release_47 ?_
        refine k_aload_n h_o 0 dX7_release_50 rfl rfl ?_
        refine k_get h_o 19 kf_X7_175 kset_eq rfl dX7_release_51 ?_
        have hmdZ : (kMd ((kset (kset wq45 19 (bd 25) (ob 9 [.ref (bd 0), .ref (bd 1), .ref (bd 2), .ref (bd 3), .ref (bd 4), .ref (bd 5), .ref (bd 6), .int (iI ((nr : Nat) : Int)), .ref (bd 8), .ref (bd 9), .ref (bd 10), .ref (bd 11), .int (iI ((T_o : Nat) : Int)), .long (lI fnd), .int (iI rel), .ref (bd 15), .int (iI szq45), .ref (bd 17), .ref (bd 18), .int (iI tmq45), .ref (bd 20), .ref (bd 21), .int (iI smq45), .int (iI dpq45), .int (iI 0)])) 19 (bd 25) (ob 9 [.ref (bd 0), .ref (bd 1), .ref (bd 2), .ref (bd 3), .ref (bd 4), .ref (bd 5), .ref (bd 6), .int (iI ((nr : Nat) : Int)), .ref (bd 8), .ref (bd 9), .ref (bd 10), .ref (bd 11), .int (iI ((T_o : Nat) : Int)), .long (lI fnd), .int (iI (rel + 1)), .ref (bd 15), .int (iI szq45), .ref (bd 17), .ref (bd 18), .int (iI tmq45), .ref (bd 20), .ref (bd 21), .int (iI smq45), .int (iI dpq45), .int (iI 0)]))) bd nr g_o T_o cs ams ltAq45 acAq45 mnAq45 (rel + 1) fnd szq45 rxq45 Nq45 tmq45 trq45 shq45 sgq45 smq45 dpq45 0) := ⟨kset_eq, ((kset_ne (by decide)).trans ((kset_ne (by decide)).trans hmdq45.2.1)), ((kset_ne (by decide)).trans ((kset_ne (by decide)).trans hmdq45.2.2.1)), ((kset_ne (by decide)).trans ((kset_ne (by decide)).trans hmdq45.2.2.2.1)), ((kset_ne (by decide)).trans ((kset_ne (by decide)).trans hmdq45.2.2.2.2.1)), ((kset_ne (by decide)).trans ((kset_ne (by decide)).trans hmdq45.2.2.2.2.2.1)), ((kset_ne (by decide)).trans ((kset_ne (by decide)).trans hmdq45.2.2.2.2.2.2.1)), ((kset_ne (by decide)).trans ((kset_ne (by decide)).trans hmdq45.2.2.2.2.2.2.2.1)), ((kset_ne (by decide)).trans ((kset_ne (by decide)).trans hmdq45.2.2.2.2.2.2.2.2.1)), ((kset_ne (by decide)).trans ((kset_ne (by decide)).trans hmdq45.2.2.2.2.2.2.2.2.2.1)), ((kset_ne (by decide)).trans ((kset_ne (by decide)).trans hmdq45.2.2.2.2.2.2.2.2.2.2.1)), ((kset_ne (by decide)).trans ((kset_ne (by decide)).trans hmdq45.2.2.2.2.2.2.2.2.2.2.2.1)), ((kset_ne (by decide)).trans ((kset_ne (by decide)).trans hmdq45.2.2.2.2.2.2.2.2.2.2.2.2.1)), ((kset_ne (by decide)).trans ((kset_ne (by decide)).trans hmdq45.2.2.2.2.2.2.2.2.2.2.2.2.2.1)), ((kset_ne (by decide)).trans ((kset_ne (by decide)).trans hmdq45.2.2.2.2.2.2.2.2.2.2.2.2.2.2.1)), ((kset_ne (by decide)).trans ((kset_ne (by decide)).trans hmdq45.2.2.2.2.2.2.2.2.2.2.2.2.2.2.2.1)), ((kset_ne (by decide)).trans ((kset_ne (by decide)).trans hmdq45.2.2.2.2.2.2.2.2.2.2.2.2.2.2.2.2))⟩
        exact k_iret h_o hr rfl (⟨_, rfl, Or.inl ⟨⟨by omega, by omega⟩, rfl, ⟨⟨_, _, _, _, _, _, _, _, _, _, _, _, hmdZ, hIq45, hrxq45, hNq45⟩, (fun x_o hx => ((kset_ne (by omega)).trans ((kset_ne (by omega)).trans (hexq45 x_o hx))))⟩⟩⟩) (by omega) (by omega) dX7_release_54
      · exfalso; omega
    · refine k_iconst h_o dX7_release_23 ?_
      refine k_goto h_o 28 dX7_release_24 (by decide) ?_
      refine k_put (fs' := [.ref (bd 0), .ref (bd 1), .ref (bd 2), .ref (bd 3), .ref (bd 4), .ref (bd 5), .ref (bd 6), .int (iI ((nr : Nat) : Int)), .ref (bd 8), .ref (bd 9), .ref (bd 10), .ref (bd 11), .int (iI ((T_o : Nat) : Int)), .long (lI fnd), .int (iI rel), .ref (bd 15), .int (iI szq45), .ref (bd 17), .ref (bd 18), .int (iI tmq45), .ref (bd 20), .ref (bd 21), .int (iI smq45), .int (iI dpq45), .int (iI 2)]) h_o 19 kf_X7_60 kt_X7_24 hmdq45.1 rfl rfl (Nat.le_of_ble_eq_true rfl) rfl dX7_release_28 ?_
      refine k_aload_n h_o 0 dX7_release_31 rfl rfl ?_
      refine k_get h_o 19 kf_X7_60 kset_eq rfl dX7_release_32 ?_
      refine k_ifle h_o 40 (by decide) dX7_release_35 (by decide) (fun h35_o => ?_) (fun h35_o => ?_)
      · exfalso; omega
      · refine k_iconst h_o dX7_release_38 ?_
        have hmdZ : (kMd ((kset wq45 19 (bd 25) (ob 9 [.ref (bd 0), .ref (bd 1), .ref (bd 2), .ref (bd 3), .ref (bd 4), .ref (bd 5), .ref (bd 6), .int (iI ((nr : Nat) : Int)), .ref (bd 8), .ref (bd 9), .ref (bd 10), .ref (bd 11), .int (iI ((T_o : Nat) : Int)), .long (lI fnd), .int (iI rel), .ref (bd 15), .int (iI szq45), .ref (bd 17), .ref (bd 18), .int (iI tmq45), .ref (bd 20), .ref (bd 21), .int (iI smq45), .int (iI dpq45), .int (iI 2)]))) bd nr g_o T_o cs ams ltAq45 acAq45 mnAq45 rel fnd szq45 rxq45 Nq45 tmq45 trq45 shq45 sgq45 smq45 dpq45 2) := ⟨kset_eq, ((kset_ne (by decide)).trans hmdq45.2.1), ((kset_ne (by decide)).trans hmdq45.2.2.1), ((kset_ne (by decide)).trans hmdq45.2.2.2.1), ((kset_ne (by decide)).trans hmdq45.2.2.2.2.1), ((kset_ne (by decide)).trans hmdq45.2.2.2.2.2.1), ((kset_ne (by decide)).trans hmdq45.2.2.2.2.2.2.1), ((kset_ne (by decide)).trans hmdq45.2.2.2.2.2.2.2.1), ((kset_ne (by decide)).trans hmdq45.2.2.2.2.2.2.2.2.1), ((kset_ne (by decide)).trans hmdq45.2.2.2.2.2.2.2.2.2.1), ((kset_ne (by decide)).trans hmdq45.2.2.2.2.2.2.2.2.2.2.1), ((kset_ne (by decide)).trans hmdq45.2.2.2.2.2.2.2.2.2.2.2.1), ((kset_ne (by decide)).trans hmdq45.2.2.2.2.2.2.2.2.2.2.2.2.1), ((kset_ne (by decide)).trans hmdq45.2.2.2.2.2.2.2.2.2.2.2.2.2.1), ((kset_ne (by decide)).trans hmdq45.2.2.2.2.2.2.2.2.2.2.2.2.2.2.1), ((kset_ne (by decide)).trans hmdq45.2.2.2.2.2.2.2.2.2.2.2.2.2.2.2.1), ((kset_ne (by decide)).trans hmdq45.2.2.2.2.2.2.2.2.2.2.2.2.2.2.2.2)⟩
        exact k_iret h_o hr rfl (⟨_, rfl, Or.inr (Or.inr ⟨⟨by omega, by omega⟩, ⟨⟨_, _, _, _, _, _, _, _, _, _, _, _, hmdZ, hIq45, hrxq45, hNq45⟩, (fun x_o hx => ((kset_ne (by omega)).trans (hexq45 x_o hx)))⟩⟩)⟩) (by omega) (by omega) dX7_release_39
  · refine k_iconst h_o dX7_release_8 ?_
    refine k_goto h_o 28 dX7_release_9 (by decide) ?_
    refine k_put (fs' := [.ref (bd 0), .ref (bd 1), .ref (bd 2), .ref (bd 3), .ref (bd 4), .ref (bd 5), .ref (bd 6), .int (iI ((nr : Nat) : Int)), .ref (bd 8), .ref (bd 9), .ref (bd 10), .ref (bd 11), .int (iI ((T_o : Nat) : Int)), .long (lI fnd), .int (iI rel), .ref (bd 15), .int (iI sz), .ref (bd 17), .ref (bd 18), .int (iI tm), .ref (bd 20), .ref (bd 21), .int (iI sm), .int (iI dp), .int (iI 1)]) h_o 19 kf_X7_60 kt_X7_24 hmd.1 rfl rfl (Nat.le_of_ble_eq_true rfl) rfl dX7_release_28 ?_
    refine k_aload_n h_o 0 dX7_release_31 rfl rfl ?_
    refine k_get h_o 19 kf_X7_60 kset_eq rfl dX7_release_32 ?_
    refine k_ifle h_o 40 (by decide) dX7_release_35 (by decide) (fun h35_o => ?_) (fun h35_o => ?_)
    · exfalso; omega
    · refine k_iconst h_o dX7_release_38 ?_
      have hmdZ : (kMd ((kset w_o 19 (bd 25) (ob 9 [.ref (bd 0), .ref (bd 1), .ref (bd 2), .ref (bd 3), .ref (bd 4), .ref (bd 5), .ref (bd 6), .int (iI ((nr : Nat) : Int)), .ref (bd 8), .ref (bd 9), .ref (bd 10), .ref (bd 11), .int (iI ((T_o : Nat) : Int)), .long (lI fnd), .int (iI rel), .ref (bd 15), .int (iI sz), .ref (bd 17), .ref (bd 18), .int (iI tm), .ref (bd 20), .ref (bd 21), .int (iI sm), .int (iI dp), .int (iI 1)]))) bd nr g_o T_o cs ams ltA acA mnA rel fnd sz rx N_o tm tr sh sg sm dp 1) := ⟨kset_eq, ((kset_ne (by decide)).trans hmd.2.1), ((kset_ne (by decide)).trans hmd.2.2.1), ((kset_ne (by decide)).trans hmd.2.2.2.1), ((kset_ne (by decide)).trans hmd.2.2.2.2.1), ((kset_ne (by decide)).trans hmd.2.2.2.2.2.1), ((kset_ne (by decide)).trans hmd.2.2.2.2.2.2.1), ((kset_ne (by decide)).trans hmd.2.2.2.2.2.2.2.1), ((kset_ne (by decide)).trans hmd.2.2.2.2.2.2.2.2.1), ((kset_ne (by decide)).trans hmd.2.2.2.2.2.2.2.2.2.1), ((kset_ne (by decide)).trans hmd.2.2.2.2.2.2.2.2.2.2.1), ((kset_ne (by decide)).trans hmd.2.2.2.2.2.2.2.2.2.2.2.1), ((kset_ne (by decide)).trans hmd.2.2.2.2.2.2.2.2.2.2.2.2.1), ((kset_ne (by decide)).trans hmd.2.2.2.2.2.2.2.2.2.2.2.2.2.1), ((kset_ne (by decide)).trans hmd.2.2.2.2.2.2.2.2.2.2.2.2.2.2.1), ((kset_ne (by decide)).trans hmd.2.2.2.2.2.2.2.2.2.2.2.2.2.2.2.1), ((kset_ne (by decide)).trans hmd.2.2.2.2.2.2.2.2.2.2.2.2.2.2.2.2)⟩
      exact k_iret h_o hr rfl (⟨_, rfl, Or.inr (Or.inl ⟨by omega, ⟨⟨_, _, _, _, _, _, _, _, _, _, _, _, hmdZ, hI, hrx, hN_o⟩, (fun x_o hx => ((kset_ne (by omega)).trans rfl))⟩⟩)⟩) (by omega) (by omega) dX7_release_39

set_option maxHeartbeats 4000000 in
set_option maxRecDepth 100000 in
theorem c_X7_cleanShare {E_o : kE} {l_o : Launch} (hl0 : l_o.stackTraces = false) {w_o : kW} {bd : Nat → Nat} {nr : Nat} {g_o : Nat → Nat → Int} {T_o : Nat} {lts : Nat → Nat → Int} {cs : Nat → Int} {acs : Nat → Nat → Int} {ams : Nat → Int} {rel fnd th : Int}  (hst : kMu w_o bd nr g_o T_o lts cs acs ams rel fnd th)  : kM E_o l_o yX7_cleanShare (.code yX7_cleanShare cX7_cleanShare 1 (some .float) :: kAL) { frames := 303, cells := 0, slots := 0, locals := 6069 } 0 0 [.ref (bd 25)] w_o (pF (fun z_o w2_o => (T_o ≠ 0 ∧ FP.fdiv (FP.i2f (iI (m_tc (fun t_o => t_o < T_o ∧ m_fv g_o nr (lts t_o) (cs t_o) (acs t_o) (ams t_o) = 45) 6))) (FP.i2f (iI ((T_o : Nat) : Int))) = z_o ∧ kMv w_o w2_o bd nr g_o T_o lts cs acs ams rel fnd 0) ∨ (T_o = 0 ∧ kMv w_o w2_o bd nr g_o T_o lts cs acs ams rel fnd 1))) := by
  refine kM_of hl0 (by decide +kernel) (Nat.le_of_ble_eq_true rfl) ?_
  intro X_o hXl h_o hr hin
  subst hXl
  obtain ⟨ltA, acA, mnA, sz, rx, N_o, tm, tr, sh, sg, sm, dp, hmd, hI, hrx, hN_o⟩ := hst
  obtain ⟨hwf, hnr, hT6, hmn, hg0, htx⟩ := id hI
  show kG E_o X_o 1 0 0 w_o 0 [(0, .ref (bd 25))] []
  refine k_aload_n h_o 0 dX7_cleanShare_0 rfl rfl ?_
  refine k_aload_n h_o 0 dX7_cleanShare_1 rfl rfl ?_
  refine k_get h_o 19 kf_X7_134 hmd.1 rfl dX7_cleanShare_2 ?_
  refine k_ifne h_o 12 (by omega) dX7_cleanShare_5 (by decide) (fun h5_o => ?_) (fun h5_o => ?_)
  · refine k_iconst h_o dX7_cleanShare_12 ?_
    refine k_put (fs' := [.ref (bd 0), .ref (bd 1), .ref (bd 2), .ref (bd 3), .ref (bd 4), .ref (bd 5), .ref (bd 6), .int (iI ((nr : Nat) : Int)), .ref (bd 8), .ref (bd 9), .ref (bd 10), .ref (bd 11), .int (iI ((T_o : Nat) : Int)), .long (lI fnd), .int (iI rel), .ref (bd 15), .int (iI sz), .ref (bd 17), .ref (bd 18), .int (iI tm), .ref (bd 20), .ref (bd 21), .int (iI sm), .int (iI dp), .int (iI 0)]) h_o 19 kf_X7_60 kt_X7_24 hmd.1 rfl rfl (Nat.le_of_ble_eq_true rfl) rfl dX7_cleanShare_13 ?_
    refine k_aload_n h_o 0 dX7_cleanShare_16 rfl rfl ?_
    refine k_get h_o 19 kf_X7_60 kset_eq rfl dX7_cleanShare_17 ?_
    refine k_ifne h_o 37 (by decide) dX7_cleanShare_20 (by decide) (fun h20_o => ?_) (fun h20_o => ?_)
    · exfalso; omega
    · refine k_aload_n h_o 0 dX7_cleanShare_23 rfl rfl ?_
      refine k_callV (As := []) (rest := []) h_o mX7_clean kq_5_143 (c_X7_clean hl0 ⟨ltA, acA, mnA, sz, rx, N_o, tm, tr, sh, sg, sm, dp, ⟨kset_eq, ((kset_ne (by decide)).trans hmd.2.1), ((kset_ne (by decide)).trans hmd.2.2.1), ((kset_ne (by decide)).trans hmd.2.2.2.1), ((kset_ne (by decide)).trans hmd.2.2.2.2.1), ((kset_ne (by decide)).trans hmd.2.2.2.2.2.1), ((kset_ne (by decide)).trans hmd.2.2.2.2.2.2.1), ((kset_ne (by decide)).trans hmd.2.2.2.2.2.2.2.1), ((kset_ne (by decide)).trans hmd.2.2.2.2.2.2.2.2.1), ((kset_ne (by decide)).trans hmd.2.2.2.2.2.2.2.2.2.1), ((kset_ne (by decide)).trans hmd.2.2.2.2.2.2.2.2.2.2.1), ((kset_ne (by decide)).trans hmd.2.2.2.2.2.2.2.2.2.2.2.1), ((kset_ne (by decide)).trans hmd.2.2.2.2.2.2.2.2.2.2.2.2.1), ((kset_ne (by decide)).trans hmd.2.2.2.2.2.2.2.2.2.2.2.2.2.1), ((kset_ne (by decide)).trans hmd.2.2.2.2.2.2.2.2.2.2.2.2.2.2.1), ((kset_ne (by decide)).trans hmd.2.2.2.2.2.2.2.2.2.2.2.2.2.2.2.1), ((kset_ne (by decide)).trans hmd.2.2.2.2.2.2.2.2.2.2.2.2.2.2.2.2)⟩, hI, hrx, hN_o⟩) 19 kset_eq rfl rfl rfl (Nat.le_of_ble_eq_true rfl) ⟨rfl, rfl, ⟨(Nat.le_of_ble_eq_true rfl), (Nat.le_of_ble_eq_true rfl)⟩, ⟨(Nat.le_of_ble_eq_true rfl), (Nat.le_of_ble_eq_true rfl)⟩⟩ dX7_cleanShare_24 (kcI fun z24_o wq46 hp => ?_)
      obtain ⟨rfl, ⟨ltAq46, acAq46, mnAq46, szq46, rxq46, Nq46, tmq46, trq46, shq46, sgq46, smq46, dpq46, hmdq46, hIq46, hrxq46, hNq46⟩, hexq46⟩ := hp
      refine k_i2f h_o dX7_cleanShare_27 ?_
      refine k_aload_n h_o 0 dX7_cleanShare_28 rfl rfl ?_
      refine k_get h_o 19 kf_X7_134 hmdq46.1 rfl dX7_cleanShare_29 ?_
      refine k_i2f h_o dX7_cleanShare_32 ?_
      refine k_fdiv h_o (m_nf (by have := m_tc_le (P := (fun t_o => m_fv g_o nr (lts t_o) (cs t_o) (acs t_o) (ams t_o) = 45)) hT6; omega) (by omega)) dX7_cleanShare_33 ?_
      refine k_goto h_o 38 dX7_cleanShare_34 (by decide) ?_
      have hmdZ : (kMd wq46 bd nr g_o T_o cs ams ltAq46 acAq46 mnAq46 rel fnd szq46 rxq46 Nq46 tmq46 trq46 shq46 sgq46 smq46 dpq46 0) := ⟨hmdq46.1, hmdq46.2.1, hmdq46.2.2.1, hmdq46.2.2.2.1, hmdq46.2.2.2.2.1, hmdq46.2.2.2.2.2.1, hmdq46.2.2.2.2.2.2.1, hmdq46.2.2.2.2.2.2.2.1, hmdq46.2.2.2.2.2.2.2.2.1, hmdq46.2.2.2.2.2.2.2.2.2.1, hmdq46.2.2.2.2.2.2.2.2.2.2.1, hmdq46.2.2.2.2.2.2.2.2.2.2.2.1, hmdq46.2.2.2.2.2.2.2.2.2.2.2.2.1, hmdq46.2.2.2.2.2.2.2.2.2.2.2.2.2.1, hmdq46.2.2.2.2.2.2.2.2.2.2.2.2.2.2.1, hmdq46.2.2.2.2.2.2.2.2.2.2.2.2.2.2.2.1, hmdq46.2.2.2.2.2.2.2.2.2.2.2.2.2.2.2.2⟩
      exact k_fret h_o hr (⟨_, rfl, Or.inl ⟨by omega, rfl, ⟨⟨_, _, _, _, _, _, _, _, _, _, _, _, hmdZ, hIq46, hrxq46, hNq46⟩, (fun x_o hx => ((hexq46 x_o hx).trans ((kset_ne (by omega)).trans rfl)))⟩⟩⟩) (by omega) (by omega) dX7_cleanShare_38
  · refine k_iconst h_o dX7_cleanShare_8 ?_
    refine k_goto h_o 13 dX7_cleanShare_9 (by decide) ?_
    refine k_put (fs' := [.ref (bd 0), .ref (bd 1), .ref (bd 2), .ref (bd 3), .ref (bd 4), .ref (bd 5), .ref (bd 6), .int (iI ((nr : Nat) : Int)), .ref (bd 8), .ref (bd 9), .ref (bd 10), .ref (bd 11), .int (iI ((T_o : Nat) : Int)), .long (lI fnd), .int (iI rel), .ref (bd 15), .int (iI sz), .ref (bd 17), .ref (bd 18), .int (iI tm), .ref (bd 20), .ref (bd 21), .int (iI sm), .int (iI dp), .int (iI 1)]) h_o 19 kf_X7_60 kt_X7_24 hmd.1 rfl rfl (Nat.le_of_ble_eq_true rfl) rfl dX7_cleanShare_13 ?_
    refine k_aload_n h_o 0 dX7_cleanShare_16 rfl rfl ?_
    refine k_get h_o 19 kf_X7_60 kset_eq rfl dX7_cleanShare_17 ?_
    refine k_ifne h_o 37 (by decide) dX7_cleanShare_20 (by decide) (fun h20_o => ?_) (fun h20_o => ?_)
    · refine k_fconst0 h_o dX7_cleanShare_37 ?_
      have hmdZ : (kMd ((kset w_o 19 (bd 25) (ob 9 [.ref (bd 0), .ref (bd 1), .ref (bd 2), .ref (bd 3), .ref (bd 4), .ref (bd 5), .ref (bd 6), .int (iI ((nr : Nat) : Int)), .ref (bd 8), .ref (bd 9), .ref (bd 10), .ref (bd 11), .int (iI ((T_o : Nat) : Int)), .long (lI fnd), .int (iI rel), .ref (bd 15), .int (iI sz), .ref (bd 17), .ref (bd 18), .int (iI tm), .ref (bd 20), .ref (bd 21), .int (iI sm), .int (iI dp), .int (iI 1)]))) bd nr g_o T_o cs ams ltA acA mnA rel fnd sz rx N_o tm tr sh sg sm dp 1) := ⟨kset_eq, ((kset_ne (by decide)).trans hmd.2.1), ((kset_ne (by decide)).trans hmd.2.2.1), ((kset_ne (by decide)).trans hmd.2.2.2.1), ((kset_ne (by decide)).trans hmd.2.2.2.2.1), ((kset_ne (by decide)).trans hmd.2.2.2.2.2.1), ((kset_ne (by decide)).trans hmd.2.2.2.2.2.2.1), ((kset_ne (by decide)).trans hmd.2.2.2.2.2.2.2.1), ((kset_ne (by decide)).trans hmd.2.2.2.2.2.2.2.2.1), ((kset_ne (by decide)).trans hmd.2.2.2.2.2.2.2.2.2.1), ((kset_ne (by decide)).trans hmd.2.2.2.2.2.2.2.2.2.2.1), ((kset_ne (by decide)).trans hmd.2.2.2.2.2.2.2.2.2.2.2.1), ((kset_ne (by decide)).trans hmd.2.2.2.2.2.2.2.2.2.2.2.2.1), ((kset_ne (by decide)).trans hmd.2.2.2.2.2.2.2.2.2.2.2.2.2.1), ((kset_ne (by decide)).trans hmd.2.2.2.2.2.2.2.2.2.2.2.2.2.2.1), ((kset_ne (by decide)).trans hmd.2.2.2.2.2.2.2.2.2.2.2.2.2.2.2.1), ((kset_ne (by decide)).trans hmd.2.2.2.2.2.2.2.2.2.2.2.2.2.2.2.2)⟩
      exact k_fret h_o hr (⟨_, rfl, Or.inr ⟨by omega, ⟨⟨_, _, _, _, _, _, _, _, _, _, _, _, hmdZ, hI, hrx, hN_o⟩, (fun x_o hx => ((kset_ne (by omega)).trans rfl))⟩⟩⟩) (by omega) (by omega) dX7_cleanShare_38
    · exfalso; omega

set_option maxHeartbeats 4000000 in
set_option maxRecDepth 100000 in
theorem c_X7_meanTrees {E_o : kE} {l_o : Launch} (hl0 : l_o.stackTraces = false) {w_o : kW} {bd : Nat → Nat} {nr : Nat} {g_o : Nat → Nat → Int} {T_o : Nat} {lts : Nat → Nat → Int} {cs : Nat → Int} {acs : Nat → Nat → Int} {ams : Nat → Int} {rel fnd th : Int}  (hst : kMu w_o bd nr g_o T_o lts cs acs ams rel fnd th)  : kM E_o l_o yX7_meanTrees (.code yX7_meanTrees cX7_meanTrees 3 (some .double) :: kAL) { frames := 7, cells := 0, slots := 0, locals := 168 } 0 0 [.ref (bd 25)] w_o (pD (fun z_o w2_o => (T_o ≠ 0 ∧ FP.ddiv (FP.i2d (iI (m_tf (fun t_o => t_o < T_o) (fun t_o => ((m_TT g_o nr (lts t_o) 10 0 (cs t_o - 1) : Nat) : Int)) 6))) (FP.i2d (iI ((T_o : Nat) : Int))) = z_o ∧ kMv w_o w2_o bd nr g_o T_o lts cs acs ams rel fnd 0) ∨ (T_o = 0 ∧ kMv w_o w2_o bd nr g_o T_o lts cs acs ams rel fnd 1))) := by
  refine kM_of hl0 (by decide +kernel) (Nat.le_of_ble_eq_true rfl) ?_
  intro X_o hXl h_o hr hin
  subst hXl
  obtain ⟨ltA, acA, mnA, sz, rx, N_o, tm, tr, sh, sg, sm, dp, hmd, hI, hrx, hN_o⟩ := hst
  obtain ⟨hwf, hnr, hT6, hmn, hg0, htx⟩ := id hI
  show kG E_o X_o 3 0 0 w_o 0 [(0, .ref (bd 25))] []
  refine k_iconst h_o dX7_meanTrees_0 ?_
  refine k_istore_n (lv' := [(1, .int (iI 0)), (0, .ref (bd 25))]) h_o dX7_meanTrees_1 rfl (by decide) rfl ?_
  refine k_iconst h_o dX7_meanTrees_2 ?_
  refine k_istore_n (lv' := [(2, .int (iI 0)), (1, .int (iI 0)), (0, .ref (bd 25))]) h_o dX7_meanTrees_3 rfl (by decide) rfl ?_
  have L4 : ∀ (mm : Nat) (y_o : Int) (w8_o : kW), (0 ≤ y_o ∧ y_o ≤ ((T_o : Nat) : Int)) → (kMu w8_o bd nr g_o T_o lts cs acs ams rel fnd th) → (kEx w_o w8_o kMk) → ((T_o : Nat) : Int) - y_o < (mm : Int) → kG E_o X_o 3 0 0 w8_o 4 [(0, .ref (bd 25)), (1, .int (iI (m_tf (fun _ => True) (fun t_o => ((m_TT g_o nr (lts t_o) 10 0 (cs t_o - 1) : Nat) : Int)) (y_o).toNat))), (2, .int (iI y_o))] [] := by
    intro mm
    induction mm with
    | zero =>
      intro y_o w8_o hy hst8 hx8 hm_o
      exfalso; omega
    | succ mm ih4 =>
      intro y_o w8_o hy hst8 hx8 hm_o
      obtain ⟨ltA, acA, mnA, sz, rx, N_o, tm, tr, sh, sg, sm, dp, hmd8, hI8, hrx8, hN8⟩ := hst8
      refine k_iload_n h_o 2 dX7_meanTrees_4 rfl rfl ?_
      refine k_aload_n h_o 0 dX7_meanTrees_5 rfl rfl ?_
      refine k_get h_o 19 kf_X7_134 hmd8.1 rfl dX7_meanTrees_6 ?_
      refine k_icmp_ge h_o 26 (by omega) (by omega) dX7_meanTrees_9 (by decide) (fun h9_o => ?_) (fun h9_o => ?_)
      · have hyT : y_o.toNat = T_o := by omega
        have hms : m_tf (fun _ => True) (fun t_o => ((m_TT g_o nr (lts t_o) 10 0 (cs t_o - 1) : Nat) : Int)) y_o.toNat = m_tf (fun t_o => t_o < T_o) (fun t_o => ((m_TT g_o nr (lts t_o) 10 0 (cs t_o - 1) : Nat) : Int)) 6 := by rw [hyT]; exact (m_tf_T1 hT6).symm
        have hmr := m_tf_rg2 (P := fun t_o => t_o < T_o) (f := (fun t_o => ((m_TT g_o nr (lts t_o) 10 0 (cs t_o - 1) : Nat) : Int))) (fun k_o => m_TTi) 6
        refine k_aload_n h_o 0 dX7_meanTrees_26 rfl rfl ?_
        refine k_aload_n h_o 0 dX7_meanTrees_27 rfl rfl ?_
        refine k_get h_o 19 kf_X7_134 hmd8.1 rfl dX7_meanTrees_28 ?_
        refine k_ifne h_o 38 (by omega) dX7_meanTrees_31 (by decide) (fun h31_o => ?_) (fun h31_o => ?_)
        · refine k_iconst h_o dX7_meanTrees_38 ?_
          refine k_put (fs' := [.ref (bd 0), .ref (bd 1), .ref (bd 2), .ref (bd 3), .ref (bd 4), .ref (bd 5), .ref (bd 6), .int (iI ((nr : Nat) : Int)), .ref (bd 8), .ref (bd 9), .ref (bd 10), .ref (bd 11), .int (iI ((T_o : Nat) : Int)), .long (lI fnd), .int (iI rel), .ref (bd 15), .int (iI sz), .ref (bd 17), .ref (bd 18), .int (iI tm), .ref (bd 20), .ref (bd 21), .int (iI sm), .int (iI dp), .int (iI 0)]) h_o 19 kf_X7_60 kt_X7_24 hmd8.1 rfl rfl (Nat.le_of_ble_eq_true rfl) rfl dX7_meanTrees_39 ?_
          refine k_aload_n h_o 0 dX7_meanTrees_42 rfl rfl ?_
          refine k_get h_o 19 kf_X7_60 kset_eq rfl dX7_meanTrees_43 ?_
          refine k_ifne h_o 60 (by decide) dX7_meanTrees_46 (by decide) (fun h46_o => ?_) (fun h46_o => ?_)
          · exfalso; omega
          · refine k_iload_n h_o 1 dX7_meanTrees_49 rfl rfl ?_
            refine k_top (z' := m_tf (fun t_o => t_o < T_o) (fun t_o => ((m_TT g_o nr (lts t_o) 10 0 (cs t_o - 1) : Nat) : Int)) 6) (hms) ?_
            refine k_i2d h_o dX7_meanTrees_50 ?_
            refine k_aload_n h_o 0 dX7_meanTrees_51 rfl rfl ?_
            refine k_get h_o 19 kf_X7_134 kset_eq rfl dX7_meanTrees_52 ?_
            refine k_i2d h_o dX7_meanTrees_55 ?_
            refine k_ddiv h_o (m_nd64 (by omega) (by omega)) dX7_meanTrees_56 ?_
            refine k_goto h_o 61 dX7_meanTrees_57 (by decide) ?_
            have hmdZ : (kMd ((kset w8_o 19 (bd 25) (ob 9 [.ref (bd 0), .ref (bd 1), .ref (bd 2), .ref (bd 3), .ref (bd 4), .ref (bd 5), .ref (bd 6), .int (iI ((nr : Nat) : Int)), .ref (bd 8), .ref (bd 9), .ref (bd 10), .ref (bd 11), .int (iI ((T_o : Nat) : Int)), .long (lI fnd), .int (iI rel), .ref (bd 15), .int (iI sz), .ref (bd 17), .ref (bd 18), .int (iI tm), .ref (bd 20), .ref (bd 21), .int (iI sm), .int (iI dp), .int (iI 0)]))) bd nr g_o T_o cs ams ltA acA mnA rel fnd sz rx N_o tm tr sh sg sm dp 0) := ⟨kset_eq, ((kset_ne (by decide)).trans hmd8.2.1), ((kset_ne (by decide)).trans hmd8.2.2.1), ((kset_ne (by decide)).trans hmd8.2.2.2.1), ((kset_ne (by decide)).trans hmd8.2.2.2.2.1), ((kset_ne (by decide)).trans hmd8.2.2.2.2.2.1), ((kset_ne (by decide)).trans hmd8.2.2.2.2.2.2.1), ((kset_ne (by decide)).trans hmd8.2.2.2.2.2.2.2.1), ((kset_ne (by decide)).trans hmd8.2.2.2.2.2.2.2.2.1), ((kset_ne (by decide)).trans hmd8.2.2.2.2.2.2.2.2.2.1), ((kset_ne (by decide)).trans hmd8.2.2.2.2.2.2.2.2.2.2.1), ((kset_ne (by decide)).trans hmd8.2.2.2.2.2.2.2.2.2.2.2.1), ((kset_ne (by decide)).trans hmd8.2.2.2.2.2.2.2.2.2.2.2.2.1), ((kset_ne (by decide)).trans hmd8.2.2.2.2.2.2.2.2.2.2.2.2.2.1), ((kset_ne (by decide)).trans hmd8.2.2.2.2.2.2.2.2.2.2.2.2.2.2.1), ((kset_ne (by decide)).trans hmd8.2.2.2.2.2.2.2.2.2.2.2.2.2.2.2.1), ((kset_ne (by decide)).trans hmd8.2.2.2.2.2.2.2.2.2.2.2.2.2.2.2.2)⟩
            exact k_dret h_o hr (⟨_, rfl, Or.inl ⟨by omega, rfl, ⟨⟨_, _, _, _, _, _, _, _, _, _, _, _, hmdZ, hI8, hrx8, hN8⟩, (fun x_o hx => ((kset_ne (by omega)).trans (hx8 x_o hx)))⟩⟩⟩) (by omega) (by omega) dX7_meanTrees_61
        · refine k_iconst h_o dX7_meanTrees_34 ?_
          refine k_goto h_o 39 dX7_meanTrees_35 (by decide) ?_
          refine k_put (fs' := [.ref (bd 0), .ref (bd 1), .ref (bd 2), .ref (bd 3), .ref (bd 4), .ref (bd 5), .ref (bd 6), .int (iI ((nr : Nat) : Int)), .ref (bd 8), .ref (bd 9), .ref (bd 10), .ref (bd 11), .int (iI ((T_o : Nat) : Int)), .long (lI fnd), .int (iI rel), .ref (bd 15), .int (iI sz), .ref (bd 17), .ref (bd 18), .int (iI tm), .ref (bd 20), .ref (bd 21), .int (iI sm), .int (iI dp), .int (iI 1)]) h_o 19 kf_X7_60 kt_X7_24 hmd8.1 rfl rfl (Nat.le_of_ble_eq_true rfl) rfl dX7_meanTrees_39 ?_
          refine k_aload_n h_o 0 dX7_meanTrees_42 rfl rfl ?_
          refine k_get h_o 19 kf_X7_60 kset_eq rfl dX7_meanTrees_43 ?_
          refine k_ifne h_o 60 (by decide) dX7_meanTrees_46 (by decide) (fun h46_o => ?_) (fun h46_o => ?_)
          · refine k_dconst0 h_o dX7_meanTrees_60 ?_
            have hmdZ : (kMd ((kset w8_o 19 (bd 25) (ob 9 [.ref (bd 0), .ref (bd 1), .ref (bd 2), .ref (bd 3), .ref (bd 4), .ref (bd 5), .ref (bd 6), .int (iI ((nr : Nat) : Int)), .ref (bd 8), .ref (bd 9), .ref (bd 10), .ref (bd 11), .int (iI ((T_o : Nat) : Int)), .long (lI fnd), .int (iI rel), .ref (bd 15), .int (iI sz), .ref (bd 17), .ref (bd 18), .int (iI tm), .ref (bd 20), .ref (bd 21), .int (iI sm), .int (iI dp), .int (iI 1)]))) bd nr g_o T_o cs ams ltA acA mnA rel fnd sz rx N_o tm tr sh sg sm dp 1) := ⟨kset_eq, ((kset_ne (by decide)).trans hmd8.2.1), ((kset_ne (by decide)).trans hmd8.2.2.1), ((kset_ne (by decide)).trans hmd8.2.2.2.1), ((kset_ne (by decide)).trans hmd8.2.2.2.2.1), ((kset_ne (by decide)).trans hmd8.2.2.2.2.2.1), ((kset_ne (by decide)).trans hmd8.2.2.2.2.2.2.1), ((kset_ne (by decide)).trans hmd8.2.2.2.2.2.2.2.1), ((kset_ne (by decide)).trans hmd8.2.2.2.2.2.2.2.2.1), ((kset_ne (by decide)).trans hmd8.2.2.2.2.2.2.2.2.2.1), ((kset_ne (by decide)).trans hmd8.2.2.2.2.2.2.2.2.2.2.1), ((kset_ne (by decide)).trans hmd8.2.2.2.2.2.2.2.2.2.2.2.1), ((kset_ne (by decide)).trans hmd8.2.2.2.2.2.2.2.2.2.2.2.2.1), ((kset_ne (by decide)).trans hmd8.2.2.2.2.2.2.2.2.2.2.2.2.2.1), ((kset_ne (by decide)).trans hmd8.2.2.2.2.2.2.2.2.2.2.2.2.2.2.1), ((kset_ne (by decide)).trans hmd8.2.2.2.2.2.2.2.2.2.2.2.2.2.2.2.1), ((kset_ne (by decide)).trans hmd8.2.2.2.2.2.2.2.2.2.2.2.2.2.2.2.2)⟩
            exact k_dret h_o hr (⟨_, rfl, Or.inr ⟨by omega, ⟨⟨_, _, _, _, _, _, _, _, _, _, _, _, hmdZ, hI8, hrx8, hN8⟩, (fun x_o hx => ((kset_ne (by omega)).trans (hx8 x_o hx)))⟩⟩⟩) (by omega) (by omega) dX7_meanTrees_61
          · exfalso; omega
      · refine k_iload_n h_o 1 dX7_meanTrees_12 rfl rfl ?_
        refine k_aload_n h_o 0 dX7_meanTrees_13 rfl rfl ?_
        refine k_iload_n h_o 2 dX7_meanTrees_14 rfl rfl ?_
        refine k_callV (As := [.int (iI y_o)]) (rest := [.int (iI (m_tf (fun _ => True) (fun t_o => ((m_TT g_o nr (lts t_o) 10 0 (cs t_o - 1) : Nat) : Int)) (y_o).toNat))]) h_o mX7_laysText kq_5_24 (c_X7_laysText hl0 hmd8 hI8 hrx8 hN8 (by omega)) 19 hmd8.1 rfl rfl rfl (Nat.le_of_ble_eq_true rfl) ⟨rfl, rfl, ⟨(Nat.le_of_ble_eq_true rfl), (Nat.le_of_ble_eq_true rfl)⟩, ⟨(Nat.le_of_ble_eq_true rfl), (Nat.le_of_ble_eq_true rfl)⟩⟩ dX7_meanTrees_15 (kcI fun z15_o wq47 hp => ?_)
        obtain ⟨rfl, rxq47, Nq47, hmdq47, hrxq47, hrowq47, hNq47, hTrq47, hexq47⟩ := hp
        refine k_iadd h_o dX7_meanTrees_18 ?_
        refine k_istore_n (lv' := [(1, .int (iI ((m_tf (fun _ => True) (fun t_o => ((m_TT g_o nr (lts t_o) 10 0 (cs t_o - 1) : Nat) : Int)) (y_o).toNat) + ((m_TT g_o nr (lts y_o.toNat) 10 0 (cs y_o.toNat - 1) : Nat) : Int)))), (0, .ref (bd 25)), (2, .int (iI y_o))]) h_o dX7_meanTrees_19 rfl (by decide) rfl ?_
        refine k_iinc (lv' := [(2, .int (iI (y_o + 1))), (1, .int (iI ((m_tf (fun _ => True) (fun t_o => ((m_TT g_o nr (lts t_o) 10 0 (cs t_o - 1) : Nat) : Int)) (y_o).toNat) + ((m_TT g_o nr (lts y_o.toNat) 10 0 (cs y_o.toNat - 1) : Nat) : Int)))), (0, .ref (bd 25))]) h_o 2 dX7_meanTrees_20 rfl (by decide) rfl ?_
        refine k_goto h_o 4 dX7_meanTrees_23 (by decide) ?_
        refine k_sub (lv' := [(0, .ref (bd 25)), (1, .int (iI ((m_tf (fun _ => True) (fun t_o => ((m_TT g_o nr (lts t_o) 10 0 (cs t_o - 1) : Nat) : Int)) (y_o).toNat) + ((m_TT g_o nr (lts y_o.toNat) 10 0 (cs y_o.toNat - 1) : Nat) : Int)))), (2, .int (iI (y_o + 1)))]) [2, 1, 0] rfl ?_
        refine k_lv (lv' := [(0, .ref (bd 25)), (1, .int (iI (m_tf (fun _ => True) (fun t_o => ((m_TT g_o nr (lts t_o) 10 0 (cs t_o - 1) : Nat) : Int)) (y_o + 1).toNat))), (2, .int (iI (y_o + 1)))]) (by rw [m_tf_t (P := (fun _ => True)) (f := (fun t_o => ((m_TT g_o nr (lts t_o) 10 0 (cs t_o - 1) : Nat) : Int))) hy.1 trivial]) ?_
        exact ih4 (y_o + 1) wq47 (by omega) (⟨_, _, _, _, _, _, _, _, _, _, _, _, hmdq47, hI8, hrxq47, hNq47⟩) (fun x_o hx => ((hexq47 x_o hx).trans (hx8 x_o hx))) (by omega)
  refine k_sub (lv' := [(0, .ref (bd 25)), (1, .int (iI 0)), (2, .int (iI 0))]) [2, 1, 0] rfl ?_
  refine k_lv (lv' := [(0, .ref (bd 25)), (1, .int (iI (m_tf (fun _ => True) (fun t_o => ((m_TT g_o nr (lts t_o) 10 0 (cs t_o - 1) : Nat) : Int)) (0 : Int).toNat))), (2, .int (iI 0))]) (by rw [show m_tf (fun _ => True) (fun t_o => ((m_TT g_o nr (lts t_o) 10 0 (cs t_o - 1) : Nat) : Int)) (0 : Int).toNat = 0 from rfl]) ?_
  exact L4 ((((T_o : Nat) : Int) - 0 : Int).toNat + 1) 0 w_o (by omega) (⟨ltA, acA, mnA, sz, rx, N_o, tm, tr, sh, sg, sm, dp, hmd, hI, hrx, hN_o⟩) kEx.rfl (by omega)

set_option maxHeartbeats 4000000 in
set_option maxRecDepth 100000 in
theorem c_X7_isSound {E_o : kE} {l_o : Launch} (hl0 : l_o.stackTraces = false) {w_o : kW} {bd : Nat → Nat} {nr : Nat} {g_o : Nat → Nat → Int} {T_o : Nat} {lts : Nat → Nat → Int} {cs : Nat → Int} {acs : Nat → Nat → Int} {ams : Nat → Int} {rel fnd th : Int}  (hst : kMu w_o bd nr g_o T_o lts cs acs ams rel fnd th)  : kM E_o l_o yX7_isSound (.code yX7_isSound cX7_isSound 1 (some .boolean) :: kAL) { frames := 0, cells := 0, slots := 0, locals := 0 } 0 0 [.ref (bd 25)] w_o (pI (fun z_o w2_o => (1 = z_o ∧ kMv w_o w2_o bd nr g_o T_o lts cs acs ams rel fnd 0))) := by
  refine kM_of hl0 (by decide +kernel) (Nat.le_of_ble_eq_true rfl) ?_
  intro X_o hXl h_o hr hin
  subst hXl
  obtain ⟨ltA, acA, mnA, sz, rx, N_o, tm, tr, sh, sg, sm, dp, hmd, hI, hrx, hN_o⟩ := hst
  obtain ⟨hwf, hnr, hT6, hmn, hg0, htx⟩ := id hI
  show kG E_o X_o 1 0 0 w_o 0 [(0, .ref (bd 25))] []
  refine k_aload_n h_o 0 dX7_isSound_0 rfl rfl ?_
  refine k_iconst h_o dX7_isSound_1 ?_
  refine k_put (fs' := [.ref (bd 0), .ref (bd 1), .ref (bd 2), .ref (bd 3), .ref (bd 4), .ref (bd 5), .ref (bd 6), .int (iI ((nr : Nat) : Int)), .ref (bd 8), .ref (bd 9), .ref (bd 10), .ref (bd 11), .int (iI ((T_o : Nat) : Int)), .long (lI fnd), .int (iI rel), .ref (bd 15), .int (iI sz), .ref (bd 17), .ref (bd 18), .int (iI tm), .ref (bd 20), .ref (bd 21), .int (iI sm), .int (iI dp), .int (iI 0)]) h_o 19 kf_X7_60 kt_X7_24 hmd.1 rfl rfl (Nat.le_of_ble_eq_true rfl) rfl dX7_isSound_2 ?_
  refine k_iconst h_o dX7_isSound_5 ?_
  have hmdZ : (kMd ((kset w_o 19 (bd 25) (ob 9 [.ref (bd 0), .ref (bd 1), .ref (bd 2), .ref (bd 3), .ref (bd 4), .ref (bd 5), .ref (bd 6), .int (iI ((nr : Nat) : Int)), .ref (bd 8), .ref (bd 9), .ref (bd 10), .ref (bd 11), .int (iI ((T_o : Nat) : Int)), .long (lI fnd), .int (iI rel), .ref (bd 15), .int (iI sz), .ref (bd 17), .ref (bd 18), .int (iI tm), .ref (bd 20), .ref (bd 21), .int (iI sm), .int (iI dp), .int (iI 0)]))) bd nr g_o T_o cs ams ltA acA mnA rel fnd sz rx N_o tm tr sh sg sm dp 0) := ⟨kset_eq, ((kset_ne (by decide)).trans hmd.2.1), ((kset_ne (by decide)).trans hmd.2.2.1), ((kset_ne (by decide)).trans hmd.2.2.2.1), ((kset_ne (by decide)).trans hmd.2.2.2.2.1), ((kset_ne (by decide)).trans hmd.2.2.2.2.2.1), ((kset_ne (by decide)).trans hmd.2.2.2.2.2.2.1), ((kset_ne (by decide)).trans hmd.2.2.2.2.2.2.2.1), ((kset_ne (by decide)).trans hmd.2.2.2.2.2.2.2.2.1), ((kset_ne (by decide)).trans hmd.2.2.2.2.2.2.2.2.2.1), ((kset_ne (by decide)).trans hmd.2.2.2.2.2.2.2.2.2.2.1), ((kset_ne (by decide)).trans hmd.2.2.2.2.2.2.2.2.2.2.2.1), ((kset_ne (by decide)).trans hmd.2.2.2.2.2.2.2.2.2.2.2.2.1), ((kset_ne (by decide)).trans hmd.2.2.2.2.2.2.2.2.2.2.2.2.2.1), ((kset_ne (by decide)).trans hmd.2.2.2.2.2.2.2.2.2.2.2.2.2.2.1), ((kset_ne (by decide)).trans hmd.2.2.2.2.2.2.2.2.2.2.2.2.2.2.2.1), ((kset_ne (by decide)).trans hmd.2.2.2.2.2.2.2.2.2.2.2.2.2.2.2.2)⟩
  exact k_iret h_o hr rfl (⟨_, rfl, ⟨rfl, ⟨⟨_, _, _, _, _, _, _, _, _, _, _, _, hmdZ, hI, hrx, hN_o⟩, (fun x_o hx => ((kset_ne (by omega)).trans rfl))⟩⟩⟩) (by omega) (by omega) dX7_isSound_6

set_option maxHeartbeats 4000000 in
set_option maxRecDepth 100000 in
theorem c_X7_work {E_o : kE} {l_o : Launch} (hl0 : l_o.stackTraces = false) {w_o : kW} {bd : Nat → Nat} {nr : Nat} {g_o : Nat → Nat → Int} {T_o : Nat} {lts : Nat → Nat → Int} {cs : Nat → Int} {acs : Nat → Nat → Int} {ams : Nat → Int} {rel fnd th : Int}  (hst : kMu w_o bd nr g_o T_o lts cs acs ams rel fnd th)  : kM E_o l_o yX7_work (.code yX7_work cX7_work 1 (some .long) :: kAL) { frames := 0, cells := 0, slots := 0, locals := 0 } 0 0 [.ref (bd 25)] w_o (pL (fun z_o w2_o => (fnd = z_o ∧ kMv w_o w2_o bd nr g_o T_o lts cs acs ams rel fnd 0))) := by
  refine kM_of hl0 (by decide +kernel) (Nat.le_of_ble_eq_true rfl) ?_
  intro X_o hXl h_o hr hin
  subst hXl
  obtain ⟨ltA, acA, mnA, sz, rx, N_o, tm, tr, sh, sg, sm, dp, hmd, hI, hrx, hN_o⟩ := hst
  obtain ⟨hwf, hnr, hT6, hmn, hg0, htx⟩ := id hI
  show kG E_o X_o 1 0 0 w_o 0 [(0, .ref (bd 25))] []
  refine k_aload_n h_o 0 dX7_work_0 rfl rfl ?_
  refine k_iconst h_o dX7_work_1 ?_
  refine k_put (fs' := [.ref (bd 0), .ref (bd 1), .ref (bd 2), .ref (bd 3), .ref (bd 4), .ref (bd 5), .ref (bd 6), .int (iI ((nr : Nat) : Int)), .ref (bd 8), .ref (bd 9), .ref (bd 10), .ref (bd 11), .int (iI ((T_o : Nat) : Int)), .long (lI fnd), .int (iI rel), .ref (bd 15), .int (iI sz), .ref (bd 17), .ref (bd 18), .int (iI tm), .ref (bd 20), .ref (bd 21), .int (iI sm), .int (iI dp), .int (iI 0)]) h_o 19 kf_X7_60 kt_X7_24 hmd.1 rfl rfl (Nat.le_of_ble_eq_true rfl) rfl dX7_work_2 ?_
  refine k_aload_n h_o 0 dX7_work_5 rfl rfl ?_
  refine k_get h_o 19 kf_X7_137 kset_eq rfl dX7_work_6 ?_
  have hmdZ : (kMd ((kset w_o 19 (bd 25) (ob 9 [.ref (bd 0), .ref (bd 1), .ref (bd 2), .ref (bd 3), .ref (bd 4), .ref (bd 5), .ref (bd 6), .int (iI ((nr : Nat) : Int)), .ref (bd 8), .ref (bd 9), .ref (bd 10), .ref (bd 11), .int (iI ((T_o : Nat) : Int)), .long (lI fnd), .int (iI rel), .ref (bd 15), .int (iI sz), .ref (bd 17), .ref (bd 18), .int (iI tm), .ref (bd 20), .ref (bd 21), .int (iI sm), .int (iI dp), .int (iI 0)]))) bd nr g_o T_o cs ams ltA acA mnA rel fnd sz rx N_o tm tr sh sg sm dp 0) := ⟨kset_eq, ((kset_ne (by decide)).trans hmd.2.1), ((kset_ne (by decide)).trans hmd.2.2.1), ((kset_ne (by decide)).trans hmd.2.2.2.1), ((kset_ne (by decide)).trans hmd.2.2.2.2.1), ((kset_ne (by decide)).trans hmd.2.2.2.2.2.1), ((kset_ne (by decide)).trans hmd.2.2.2.2.2.2.1), ((kset_ne (by decide)).trans hmd.2.2.2.2.2.2.2.1), ((kset_ne (by decide)).trans hmd.2.2.2.2.2.2.2.2.1), ((kset_ne (by decide)).trans hmd.2.2.2.2.2.2.2.2.2.1), ((kset_ne (by decide)).trans hmd.2.2.2.2.2.2.2.2.2.2.1), ((kset_ne (by decide)).trans hmd.2.2.2.2.2.2.2.2.2.2.2.1), ((kset_ne (by decide)).trans hmd.2.2.2.2.2.2.2.2.2.2.2.2.1), ((kset_ne (by decide)).trans hmd.2.2.2.2.2.2.2.2.2.2.2.2.2.1), ((kset_ne (by decide)).trans hmd.2.2.2.2.2.2.2.2.2.2.2.2.2.2.1), ((kset_ne (by decide)).trans hmd.2.2.2.2.2.2.2.2.2.2.2.2.2.2.2.1), ((kset_ne (by decide)).trans hmd.2.2.2.2.2.2.2.2.2.2.2.2.2.2.2.2)⟩
  exact k_lret h_o hr (⟨_, rfl, ⟨rfl, ⟨⟨_, _, _, _, _, _, _, _, _, _, _, _, hmdZ, hI, hrx, hN_o⟩, (fun x_o hx => ((kset_ne (by omega)).trans rfl))⟩⟩⟩) (by omega) (by omega) dX7_work_9
