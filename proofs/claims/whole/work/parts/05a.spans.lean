set_option maxHeartbeats 4000000 in
set_option maxRecDepth 100000 in
theorem c_X6_isLetter {E_o : kE} {l_o : Launch} (hl0 : l_o.stackTraces = false) {w_o : kW} {x_o : Int} (hx : -2147483648 ≤ x_o ∧ x_o < 2147483648) : kM E_o l_o yX6_isLetter (.code yX6_isLetter cX6_isLetter 1 (some .boolean) :: kAL) { frames := 0, cells := 0, slots := 0, locals := 0 } 0 0 [.int (iI x_o)] w_o (pI (fun z_o w2_o => bI (m_isL x_o) = z_o ∧ w_o = w2_o)) := by
  refine kM_of hl0 (by decide +kernel) (Nat.le_of_ble_eq_true rfl) ?_
  intro X_o hXl h_o hr hin
  subst hXl
  show kG E_o X_o 1 0 0 w_o 0 [(0, .int (iI x_o))] []
  refine k_iload_n h_o 0 dX6_isLetter_0 rfl rfl ?_
  refine k_iflt h_o 14 (by omega) dX6_isLetter_1 (by decide) (fun h1_o => ?_) (fun h1_o => ?_)
  · refine k_iconst h_o dX6_isLetter_14 ?_
    exact k_iret h_o hr rfl (⟨_, rfl, (bI_f (by omega)), rfl⟩) (by omega) (by omega) dX6_isLetter_15
  · refine k_iload_n h_o 0 dX6_isLetter_4 rfl rfl ?_
    refine k_bipush h_o dX6_isLetter_5 (by decide) ?_
    refine k_icmp_ge h_o 14 (by omega) (by decide) dX6_isLetter_7 (by decide) (fun h7_o => ?_) (fun h7_o => ?_)
    · refine k_iconst h_o dX6_isLetter_14 ?_
      exact k_iret h_o hr rfl (⟨_, rfl, (bI_f (by omega)), rfl⟩) (by omega) (by omega) dX6_isLetter_15
    · refine k_iconst h_o dX6_isLetter_10 ?_
      refine k_goto h_o 15 dX6_isLetter_11 (by decide) ?_
      exact k_iret h_o hr rfl (⟨_, rfl, (bI_t (by omega)), rfl⟩) (by omega) (by omega) dX6_isLetter_15

set_option maxHeartbeats 4000000 in
set_option maxRecDepth 100000 in
theorem c_X3_letterOf {E_o : kE} {l_o : Launch} (hl0 : l_o.stackTraces = false) {w_o : kW} {q_o a_o la na : Nat} {lt_o : Nat → Int} {N_o : Nat → Nat} {c_o : Int} {p_o : Int} (hsp : kSp w_o q_o a_o la na lt_o N_o c_o) (hp : 0 ≤ p_o ∧ p_o < 10) : kM E_o l_o yX3_letterOf (.code yX3_letterOf cX3_letterOf 2 (some .int) :: kAL) { frames := 0, cells := 0, slots := 0, locals := 0 } 0 0 [.ref a_o, .int (iI p_o)] w_o (pI (fun z_o w2_o => lt_o p_o.toNat = z_o ∧ w_o = w2_o)) := by
  refine kM_of hl0 (by decide +kernel) (Nat.le_of_ble_eq_true rfl) ?_
  intro X_o hXl h_o hr hin
  subst hXl
  show kG E_o X_o 2 0 0 w_o 0 [(0, .ref a_o), (1, .int (iI p_o))] []
  refine k_iload_n h_o 1 dX3_letterOf_0 rfl rfl ?_
  refine k_iflt h_o 22 (by omega) dX3_letterOf_1 (by decide) (fun h1_o => ?_) (fun h1_o => ?_)
  · exfalso; omega
  · refine k_iload_n h_o 1 dX3_letterOf_4 rfl rfl ?_
    refine k_aload_n h_o 0 dX3_letterOf_5 rfl rfl ?_
    refine k_get h_o q_o kf_X3_9 hsp.1 rfl dX3_letterOf_6 ?_
    refine k_alen h_o (q_o + 1) hsp.2.1 rfl dX3_letterOf_9 ?_
    show kG E_o X_o 2 _ _ _ _ _ (.int (iI 10) :: _)
    refine k_icmp_ge h_o 22 (by omega) (by decide) dX3_letterOf_10 (by decide) (fun h10_o => ?_) (fun h10_o => ?_)
    · exfalso; omega
    · refine k_aload_n h_o 0 dX3_letterOf_13 rfl rfl ?_
      refine k_get h_o q_o kf_X3_9 hsp.1 rfl dX3_letterOf_14 ?_
      refine k_iload_n h_o 1 dX3_letterOf_17 rfl rfl ?_
      refine k_iald h_o (q_o + 1) hsp.2.1 (by omega) (by decide) dX3_letterOf_18 ?_
      refine k_goto h_o 23 dX3_letterOf_19 (by decide) ?_
      exact k_iret h_o hr rfl (⟨_, rfl, rfl, rfl⟩) (by omega) (by omega) dX3_letterOf_23

set_option maxHeartbeats 4000000 in
set_option maxRecDepth 100000 in
theorem c_X3_put {E_o : kE} {l_o : Launch} (hl0 : l_o.stackTraces = false) {w_o : kW} {q_o a_o la na : Nat} {lt_o : Nat → Int} {N_o : Nat → Nat} {c_o : Int} {p_o x_o : Int} (hsp : kSp w_o q_o a_o la na lt_o N_o c_o) (hp : 0 ≤ p_o ∧ p_o < 10) : kM E_o l_o yX3_put (.code yX3_put cX3_put 3 none :: kAL) { frames := 0, cells := 0, slots := 0, locals := 0 } 0 0 [.ref a_o, .int (iI p_o), .int (iI x_o)] w_o (pV (fun w2_o => kset w_o (q_o + 1) la (ai 10 (kup lt_o p_o.toNat x_o)) = w2_o)) := by
  refine kM_of hl0 (by decide +kernel) (Nat.le_of_ble_eq_true rfl) ?_
  intro X_o hXl h_o hr hin
  subst hXl
  show kG E_o X_o 3 0 0 w_o 0 [(0, .ref a_o), (1, .int (iI p_o)), (2, .int (iI x_o))] []
  refine k_iload_n h_o 1 dX3_put_0 rfl rfl ?_
  refine k_iflt h_o 20 (by omega) dX3_put_1 (by decide) (fun h1_o => ?_) (fun h1_o => ?_)
  · exfalso; omega
  · refine k_iload_n h_o 1 dX3_put_4 rfl rfl ?_
    refine k_aload_n h_o 0 dX3_put_5 rfl rfl ?_
    refine k_get h_o q_o kf_X3_9 hsp.1 rfl dX3_put_6 ?_
    refine k_alen h_o (q_o + 1) hsp.2.1 rfl dX3_put_9 ?_
    show kG E_o X_o 3 _ _ _ _ _ (.int (iI 10) :: _)
    refine k_icmp_ge h_o 20 (by omega) (by decide) dX3_put_10 (by decide) (fun h10_o => ?_) (fun h10_o => ?_)
    · exfalso; omega
    · refine k_aload_n h_o 0 dX3_put_13 rfl rfl ?_
      refine k_get h_o q_o kf_X3_9 hsp.1 rfl dX3_put_14 ?_
      refine k_iload_n h_o 1 dX3_put_17 rfl rfl ?_
      refine k_iload_n h_o 2 dX3_put_18 rfl rfl ?_
      refine k_iast h_o (q_o + 1) hsp.2.1 (by omega) (by decide) dX3_put_19 ?_
      exact k_vret h_o hr (⟨rfl, rfl⟩) (by omega) (by omega) dX3_put_20

set_option maxHeartbeats 4000000 in
set_option maxRecDepth 100000 in
theorem c_X3_append {E_o : kE} {l_o : Launch} (hl0 : l_o.stackTraces = false) {w_o : kW} {q_o a_o la na : Nat} {lt_o : Nat → Int} {N_o : Nat → Nat} {c_o : Int} {x_o : Int} (hsp : kSp w_o q_o a_o la na lt_o N_o c_o) (hc_o : 0 ≤ c_o ∧ c_o < 10) : kM E_o l_o yX3_append (.code yX3_append cX3_append 2 none :: kAL) { frames := 1, cells := 0, slots := 0, locals := 22 } 0 0 [.ref a_o, .int (iI x_o)] w_o (pV (fun w2_o => kset (kset w_o (q_o + 1) la (ai 10 (kup lt_o c_o.toNat x_o))) q_o a_o (ob 5 [.ref la, .ref na, .int (iI (c_o + 1))]) = w2_o)) := by
  refine kM_of hl0 (by decide +kernel) (Nat.le_of_ble_eq_true rfl) ?_
  intro X_o hXl h_o hr hin
  subst hXl
  show kG E_o X_o 2 0 0 w_o 0 [(0, .ref a_o), (1, .int (iI x_o))] []
  refine k_aload_n h_o 0 dX3_append_0 rfl rfl ?_
  refine k_get h_o q_o kf_X3_18 hsp.1 rfl dX3_append_1 ?_
  refine k_bipush h_o dX3_append_4 (by decide) ?_
  refine k_icmp_ge h_o 28 (by omega) (by decide) dX3_append_6 (by decide) (fun h6_o => ?_) (fun h6_o => ?_)
  · exfalso; omega
  · refine k_aload_n h_o 0 dX3_append_9 rfl rfl ?_
    refine k_aload_n h_o 0 dX3_append_10 rfl rfl ?_
    refine k_get h_o q_o kf_X3_18 hsp.1 rfl dX3_append_11 ?_
    refine k_iload_n h_o 1 dX3_append_14 rfl rfl ?_
    refine k_callV (As := [.int (iI c_o), .int (iI x_o)]) (rest := []) h_o mX3_put kq_1_223 (c_X3_put hl0 hsp (by omega)) q_o hsp.1 rfl rfl rfl (Nat.le_of_ble_eq_true rfl) ⟨rfl, rfl, ⟨(Nat.le_of_ble_eq_true rfl), (Nat.le_of_ble_eq_true rfl)⟩, ⟨(Nat.le_of_ble_eq_true rfl), (Nat.le_of_ble_eq_true rfl)⟩⟩ dX3_append_15 (kcV fun w15_o hp => ?_)
    subst hp
    refine k_aload_n h_o 0 dX3_append_18 rfl rfl ?_
    refine k_dup h_o dX3_append_19 rfl ?_
    refine k_get h_o q_o kf_X3_18 ((kset_ne (by omega)).trans hsp.1) rfl dX3_append_20 ?_
    refine k_iconst h_o dX3_append_23 ?_
    refine k_iadd h_o dX3_append_24 ?_
    refine k_put (fs' := [.ref la, .ref na, .int (iI (c_o + 1))]) h_o q_o kf_X3_18 kt_X3_2 ((kset_ne (by omega)).trans hsp.1) rfl rfl (Nat.le_of_ble_eq_true rfl) rfl dX3_append_25 ?_
    exact k_vret h_o hr (⟨rfl, rfl⟩) (by omega) (by omega) dX3_append_28

set_option maxHeartbeats 4000000 in
set_option maxRecDepth 100000 in
theorem c_X3_treesOf {E_o : kE} {l_o : Launch} (hl0 : l_o.stackTraces = false) {w_o : kW} {q_o a_o la na : Nat} {lt_o : Nat → Int} {N_o : Nat → Nat} {c_o : Int} {s_o i_o j_o : Int} (hsp : kSp w_o q_o a_o la na lt_o N_o c_o) (hlt : kLt lt_o) (hN_o : ∀ x_o, N_o x_o ≤ 1000) (hs : s_o = -1 ∨ m_isS s_o) (hi_o : 0 ≤ i_o ∧ i_o ≤ 10) (hj : -1 ≤ j_o ∧ j_o < 10) : kM E_o l_o yX3_treesOf (.code yX3_treesOf cX3_treesOf 4 (some .int) :: kAL) { frames := 0, cells := 0, slots := 0, locals := 0 } 0 0 [.ref a_o, .int (iI s_o), .int (iI i_o), .int (iI j_o)] w_o (pI (fun z_o w2_o => ((m_tr N_o lt_o s_o i_o j_o : Nat) : Int) = z_o ∧ w_o = w2_o)) := by
  refine kM_of hl0 (by decide +kernel) (Nat.le_of_ble_eq_true rfl) ?_
  intro X_o hXl h_o hr hin
  subst hXl
  show kG E_o X_o 4 0 0 w_o 0 [(0, .ref a_o), (1, .int (iI s_o)), (2, .int (iI i_o)), (3, .int (iI j_o))] []
  refine k_iload_n h_o 1 dX3_treesOf_0 rfl rfl ?_
  refine k_iconst h_o dX3_treesOf_1 ?_
  refine k_icmp_ne h_o 16 (by omega) (by decide) dX3_treesOf_2 (by decide) (fun h2_o => ?_) (fun h2_o => ?_)
  · refine k_iload_n h_o 2 dX3_treesOf_16 rfl rfl ?_
    refine k_iflt h_o 41 (by omega) dX3_treesOf_17 (by decide) (fun h17_o => ?_) (fun h17_o => ?_)
    · exfalso; omega
    · refine k_iload_n h_o 3 dX3_treesOf_20 rfl rfl ?_
      refine k_iload_n h_o 2 dX3_treesOf_21 rfl rfl ?_
      refine k_icmp_lt h_o 41 (by omega) (by omega) dX3_treesOf_22 (by decide) (fun h22_o => ?_) (fun h22_o => ?_)
      · refine k_iconst h_o dX3_treesOf_41 ?_
        exact k_iret h_o hr rfl (⟨_, rfl, (by unfold m_tr m_part m_Cn; rw [if_neg (by omega)]; first | (rw [if_pos (by omega)]; rfl) | (rw [if_neg (by omega), if_neg (by omega)]; omega)), rfl⟩) (by omega) (by omega) dX3_treesOf_42
      · refine k_iload_n h_o 3 dX3_treesOf_25 rfl rfl ?_
        refine k_bipush h_o dX3_treesOf_26 (by decide) ?_
        refine k_icmp_ge h_o 41 (by omega) (by decide) dX3_treesOf_28 (by decide) (fun h28_o => ?_) (fun h28_o => ?_)
        · exfalso; omega
        · refine k_iload_n h_o 1 dX3_treesOf_31 rfl rfl ?_
          refine k_iflt h_o 41 (by omega) dX3_treesOf_32 (by decide) (fun h32_o => ?_) (fun h32_o => ?_)
          · refine k_iconst h_o dX3_treesOf_41 ?_
            exact k_iret h_o hr rfl (⟨_, rfl, (by unfold m_tr m_part m_Cn; rw [if_neg (by omega)]; first | (rw [if_pos (by omega)]; rfl) | (rw [if_neg (by omega), if_neg (by omega)]; omega)), rfl⟩) (by omega) (by omega) dX3_treesOf_42
          · refine k_iload_n h_o 1 dX3_treesOf_35 rfl rfl ?_
            refine k_bipush h_o dX3_treesOf_36 (by decide) ?_
            refine k_icmp_lt h_o 43 (by omega) (by decide) dX3_treesOf_38 (by decide) (fun h38_o => ?_) (fun h38_o => ?_)
            · refine k_iload_n h_o 1 dX3_treesOf_43 rfl rfl ?_
              refine k_bipush h_o dX3_treesOf_44 (by decide) ?_
              refine k_icmp_ge h_o 70 (by omega) (by decide) dX3_treesOf_46 (by decide) (fun h46_o => ?_) (fun h46_o => ?_)
              · refine k_aload_n h_o 0 dX3_treesOf_70 rfl rfl ?_
                refine k_get h_o q_o kf_X3_15 hsp.1 rfl dX3_treesOf_71 ?_
                refine k_iload_n h_o 1 dX3_treesOf_74 rfl rfl ?_
                refine k_bipush h_o dX3_treesOf_75 (by decide) ?_
                refine k_isub h_o dX3_treesOf_77 ?_
                refine k_bipush h_o dX3_treesOf_78 (by decide) ?_
                refine k_imul h_o dX3_treesOf_80 ?_
                refine k_iload_n h_o 2 dX3_treesOf_81 rfl rfl ?_
                refine k_iadd h_o dX3_treesOf_82 ?_
                refine k_bipush h_o dX3_treesOf_83 (by decide) ?_
                refine k_imul h_o dX3_treesOf_85 ?_
                refine k_iload_n h_o 3 dX3_treesOf_86 rfl rfl ?_
                refine k_iadd h_o dX3_treesOf_87 ?_
                refine k_iald h_o (q_o + 2) hsp.2.2 (by omega) (by decide) dX3_treesOf_88 ?_
                exact k_iret h_o hr rfl (⟨_, rfl, (by unfold m_tr m_part m_Cn; rw [if_neg (by omega), if_neg (by omega), if_neg (by omega)]), rfl⟩) (by omega) (by omega) dX3_treesOf_89
              · refine k_iload_n h_o 2 dX3_treesOf_49 rfl rfl ?_
                refine k_iload_n h_o 3 dX3_treesOf_50 rfl rfl ?_
                refine k_icmp_ne h_o 68 (by omega) (by omega) dX3_treesOf_51 (by decide) (fun h51_o => ?_) (fun h51_o => ?_)
                · refine k_iconst h_o dX3_treesOf_68 ?_
                  exact k_iret h_o hr rfl (⟨_, rfl, (by unfold m_tr m_part m_Cn; rw [if_neg (by omega), if_neg (by omega), if_pos (by omega)]; rw [if_neg (by omega)]; rfl), rfl⟩) (by omega) (by omega) dX3_treesOf_69
                · refine k_aload_n h_o 0 dX3_treesOf_54 rfl rfl ?_
                  refine k_get h_o q_o kf_X3_9 hsp.1 rfl dX3_treesOf_55 ?_
                  refine k_iload_n h_o 2 dX3_treesOf_58 rfl rfl ?_
                  refine k_iald h_o (q_o + 1) hsp.2.1 (by omega) (by decide) dX3_treesOf_59 ?_
                  refine k_iload_n h_o 1 dX3_treesOf_60 rfl rfl ?_
                  refine k_icmp_ne h_o 68 (by have := hlt ((i_o).toNat); omega) (by omega) dX3_treesOf_61 (by decide) (fun h61_o => ?_) (fun h61_o => ?_)
                  · refine k_iconst h_o dX3_treesOf_68 ?_
                    exact k_iret h_o hr rfl (⟨_, rfl, (by unfold m_tr m_part m_Cn; rw [if_neg (by omega), if_neg (by omega), if_pos (by omega)]; rw [if_neg (by omega)]; rfl), rfl⟩) (by omega) (by omega) dX3_treesOf_69
                  · refine k_iconst h_o dX3_treesOf_64 ?_
                    refine k_goto h_o 69 dX3_treesOf_65 (by decide) ?_
                    exact k_iret h_o hr rfl (⟨_, rfl, (by unfold m_tr m_part m_Cn; rw [if_neg (by omega), if_neg (by omega), if_pos (by omega)]; rw [if_pos (by omega)]; rfl), rfl⟩) (by omega) (by omega) dX3_treesOf_69
            · exfalso; omega
  · refine k_iload_n h_o 2 dX3_treesOf_5 rfl rfl ?_
    refine k_iload_n h_o 3 dX3_treesOf_6 rfl rfl ?_
    refine k_icmp_le h_o 14 (by omega) (by omega) dX3_treesOf_7 (by decide) (fun h7_o => ?_) (fun h7_o => ?_)
    · refine k_iconst h_o dX3_treesOf_14 ?_
      exact k_iret h_o hr rfl (⟨_, rfl, (by unfold m_tr m_part m_Cn; rw [if_pos (by omega)]; rw [if_neg (by omega)]; rfl), rfl⟩) (by omega) (by omega) dX3_treesOf_15
    · refine k_iconst h_o dX3_treesOf_10 ?_
      refine k_goto h_o 15 dX3_treesOf_11 (by decide) ?_
      exact k_iret h_o hr rfl (⟨_, rfl, (by unfold m_tr m_part m_Cn; rw [if_pos (by omega)]; rw [if_pos (by omega)]; rfl), rfl⟩) (by omega) (by omega) dX3_treesOf_15

set_option maxHeartbeats 4000000 in
set_option maxRecDepth 100000 in
theorem c_X3_treesOfAll {E_o : kE} {l_o : Launch} (hl0 : l_o.stackTraces = false) {w_o : kW} {q_o a_o la na : Nat} {lt_o : Nat → Int} {N_o : Nat → Nat} {c_o : Int} (hsp : kSp w_o q_o a_o la na lt_o N_o c_o) (hlt : kLt lt_o) (hN_o : ∀ x_o, N_o x_o ≤ 1000) (hc_o : 1 ≤ c_o ∧ c_o ≤ 10) : kM E_o l_o yX3_treesOfAll (.code yX3_treesOfAll cX3_treesOfAll 1 (some .int) :: kAL) { frames := 1, cells := 0, slots := 0, locals := 23 } 0 0 [.ref a_o] w_o (pI (fun z_o w2_o => ((m_tr N_o lt_o 10 0 (c_o - 1) : Nat) : Int) = z_o ∧ w_o = w2_o)) := by
  refine kM_of hl0 (by decide +kernel) (Nat.le_of_ble_eq_true rfl) ?_
  intro X_o hXl h_o hr hin
  subst hXl
  show kG E_o X_o 1 0 0 w_o 0 [(0, .ref a_o)] []
  refine k_aload_n h_o 0 dX3_treesOfAll_0 rfl rfl ?_
  refine k_bipush h_o dX3_treesOfAll_1 (by decide) ?_
  refine k_iconst h_o dX3_treesOfAll_3 ?_
  refine k_aload_n h_o 0 dX3_treesOfAll_4 rfl rfl ?_
  refine k_get h_o q_o kf_X3_18 hsp.1 rfl dX3_treesOfAll_5 ?_
  refine k_iconst h_o dX3_treesOfAll_8 ?_
  refine k_isub h_o dX3_treesOfAll_9 ?_
  refine k_callV (As := [.int (iI 10), .int (iI 0), .int (iI (c_o - 1))]) (rest := []) h_o mX3_treesOf kq_1_177 (c_X3_treesOf hl0 hsp hlt hN_o (by omega) (by decide) (by omega)) q_o hsp.1 rfl rfl rfl (Nat.le_of_ble_eq_true rfl) ⟨rfl, rfl, ⟨(Nat.le_of_ble_eq_true rfl), (Nat.le_of_ble_eq_true rfl)⟩, ⟨(Nat.le_of_ble_eq_true rfl), (Nat.le_of_ble_eq_true rfl)⟩⟩ dX3_treesOfAll_10 (kcI fun z10_o w10_o hp => ?_)
  obtain ⟨rfl, rfl⟩ := hp
  exact k_iret h_o hr rfl (⟨_, rfl, rfl, rfl⟩) (by omega) (by omega) dX3_treesOfAll_13

set_option maxHeartbeats 4000000 in
set_option maxRecDepth 100000 in
theorem c_X3_hasIfLetter {E_o : kE} {l_o : Launch} (hl0 : l_o.stackTraces = false) {w_o : kW} {q_o a_o la na : Nat} {lt_o : Nat → Int} {N_o : Nat → Nat} {c_o : Int} {x_o : Int} (hsp : kSp w_o q_o a_o la na lt_o N_o c_o) (hlt : kLt lt_o) (hc_o : 0 ≤ c_o ∧ c_o ≤ 10) (hx : x_o = -1 ∨ m_isS x_o) : kM E_o l_o yX3_hasIfLetter (.code yX3_hasIfLetter cX3_hasIfLetter 3 (some .boolean) :: kAL) { frames := 1, cells := 0, slots := 0, locals := 21 } 0 0 [.ref a_o, .int (iI x_o)] w_o (pI (fun z_o w2_o => bI (m_st lt_o c_o x_o) = z_o ∧ w_o = w2_o)) := by
  refine kM_of hl0 (by decide +kernel) (Nat.le_of_ble_eq_true rfl) ?_
  intro X_o hXl h_o hr hin
  subst hXl
  show kG E_o X_o 3 0 0 w_o 0 [(0, .ref a_o), (1, .int (iI x_o))] []
  refine k_iload_n h_o 1 dX3_hasIfLetter_0 rfl rfl ?_
  refine k_callSN (As := [.int (iI x_o)]) (rest := []) h_o mX6_isLetter kq_2_223 (c_X6_isLetter hl0 (by omega)) rfl rfl (Nat.le_of_ble_eq_true rfl) ⟨rfl, rfl, ⟨(Nat.le_of_ble_eq_true rfl), (Nat.le_of_ble_eq_true rfl)⟩, ⟨(Nat.le_of_ble_eq_true rfl), (Nat.le_of_ble_eq_true rfl)⟩⟩ dX3_hasIfLetter_1 (kcI fun z1_o w1_o hp => ?_)
  obtain ⟨rfl, rfl⟩ := hp
  refine k_ifBne h_o 9 dX3_hasIfLetter_4 (by decide) (fun h4_o => ?_) (fun h4_o => ?_)
  · refine k_iconst h_o dX3_hasIfLetter_9 ?_
    refine k_istore_n (lv' := [(2, .int (iI 0)), (0, .ref a_o), (1, .int (iI x_o))]) h_o dX3_hasIfLetter_10 rfl (by decide) rfl ?_
    have L11 : ∀ (mm : Nat) (i_o : Int), (0 ≤ i_o ∧ i_o ≤ c_o) → (∀ p_o : Nat, (p_o : Int) < i_o → lt_o p_o ≠ x_o) → (c_o - i_o < (mm : Int)) → kG E_o X_o 3 0 0 w_o 11 [(0, .ref a_o), (1, .int (iI x_o)), (2, .int (iI i_o))] [] := by
      intro mm
      induction mm with
      | zero =>
        intro i_o hi_o hno hm_o
        exfalso; omega
      | succ mm ih11 =>
        intro i_o hi_o hno hm_o
        refine k_iload_n h_o 2 dX3_hasIfLetter_11 rfl rfl ?_
        refine k_aload_n h_o 0 dX3_hasIfLetter_12 rfl rfl ?_
        refine k_get h_o q_o kf_X3_18 hsp.1 rfl dX3_hasIfLetter_13 ?_
        refine k_icmp_ge h_o 36 (by omega) (by omega) dX3_hasIfLetter_16 (by decide) (fun h16_o => ?_) (fun h16_o => ?_)
        · refine k_iconst h_o dX3_hasIfLetter_36 ?_
          exact k_iret h_o hr rfl (⟨_, rfl, bI_f (fun q_o => by obtain ⟨p_o, h1_o, h2_o⟩ := q_o h4_o; exact hno p_o (by omega) h2_o), rfl⟩) (by omega) (by omega) dX3_hasIfLetter_37
        · refine k_aload_n h_o 0 dX3_hasIfLetter_19 rfl rfl ?_
          refine k_iload_n h_o 2 dX3_hasIfLetter_20 rfl rfl ?_
          refine k_callV (As := [.int (iI i_o)]) (rest := []) h_o mX3_letterOf kq_1_219 (c_X3_letterOf hl0 hsp (by omega)) q_o hsp.1 rfl rfl rfl (Nat.le_of_ble_eq_true rfl) ⟨rfl, rfl, ⟨(Nat.le_of_ble_eq_true rfl), (Nat.le_of_ble_eq_true rfl)⟩, ⟨(Nat.le_of_ble_eq_true rfl), (Nat.le_of_ble_eq_true rfl)⟩⟩ dX3_hasIfLetter_21 (kcI fun z21_o w21_o hp => ?_)
          obtain ⟨rfl, rfl⟩ := hp
          refine k_iload_n h_o 1 dX3_hasIfLetter_24 rfl rfl ?_
          refine k_icmp_ne h_o 30 (by have := hlt ((i_o).toNat); omega) (by omega) dX3_hasIfLetter_25 (by decide) (fun h25_o => ?_) (fun h25_o => ?_)
          · refine k_iinc (lv' := [(2, .int (iI (i_o + 1))), (0, .ref a_o), (1, .int (iI x_o))]) h_o 2 dX3_hasIfLetter_30 rfl (by decide) rfl ?_
            refine k_goto h_o 11 dX3_hasIfLetter_33 (by decide) ?_
            refine k_sub (lv' := [(0, .ref a_o), (1, .int (iI x_o)), (2, .int (iI (i_o + 1)))]) [1, 2, 0] rfl ?_
            exact ih11 (i_o + 1) (by omega) (m_all_step hno hi_o.1 h25_o) (by omega)
          · refine k_iconst h_o dX3_hasIfLetter_28 ?_
            exact k_iret h_o hr rfl (⟨_, rfl, bI_t (fun _ => ⟨i_o.toNat, by omega, by omega⟩), rfl⟩) (by omega) (by omega) dX3_hasIfLetter_29
    refine k_sub (lv' := [(0, .ref a_o), (1, .int (iI x_o)), (2, .int (iI 0))]) [1, 2, 0] rfl ?_
    exact L11 ((c_o - 0 : Int).toNat + 1) 0 (by omega) m_all_0 (by omega)
  · refine k_iconst h_o dX3_hasIfLetter_7 ?_
    exact k_iret h_o hr rfl (⟨_, rfl, bI_t (fun q_o => absurd q_o h4_o), rfl⟩) (by omega) (by omega) dX3_hasIfLetter_8
