set_option maxHeartbeats 4000000 in
set_option maxRecDepth 100000 in
theorem c_X3_findHaving {E_o : kE} {l_o : Launch} (hl0 : l_o.stackTraces = false) {w_o : kW} {q_o a_o la na : Nat} {lt_o : Nat → Int} {N_o : Nat → Nat} {c_o : Int} {ag ap nr : Nat} {ra : Nat → Nat} {g_o : Nat → Nat → Int} {p_o : Int} (hsp : kSp w_o q_o a_o la na lt_o N_o c_o) (hlt : kLt lt_o) (hN_o : ∀ x_o, N_o x_o ≤ 1000) (hgr : kGr w_o ag ap nr ra g_o) (hwf : kWf g_o nr) (hq : (4 ≤ q_o ∧ q_o + 2 < 100) ∨ 112 ≤ q_o) (hp : 0 ≤ p_o ∧ p_o < c_o) (hc_o : c_o ≤ 10) (hT0 : ∀ s_o i2 j2 : Int, m_isN s_o → 0 ≤ i2 → i2 ≤ j2 → j2 < c_o → (j2 < p_o ∨ p_o < i2) → m_Cn N_o s_o i2 j2 = m_TT g_o nr lt_o s_o i2 j2) : kM E_o l_o yX3_findHaving (.code yX3_findHaving cX3_findHaving 7 (some .int) :: kAL) { frames := 3, cells := 0, slots := 0, locals := 78 } 0 0 [.ref a_o, .ref ag, .int (iI p_o)] w_o (pI (fun z_o w2_o => (p_o + 1) * (c_o - p_o) = z_o ∧ ∃ N2 : Nat → Nat, kset w_o (q_o + 2) na (kNm N2) = w2_o ∧ (∀ x_o, N2 x_o ≤ 1000) ∧ (∀ s_o i_o j_o : Int, m_isN s_o → 0 ≤ i_o → i_o ≤ j_o → j_o < c_o → m_Cn N2 s_o i_o j_o = m_TT g_o nr lt_o s_o i_o j_o))) := by
  refine kM_of hl0 (by decide +kernel) (Nat.le_of_ble_eq_true rfl) ?_
  intro X_o hXl h_o hr hin
  subst hXl
  show kG E_o X_o 7 0 0 w_o 0 [(0, .ref a_o), (1, .ref ag), (2, .int (iI p_o))] []
  refine k_iconst h_o dX3_findHaving_0 ?_
  refine k_istore_n (lv' := [(3, .int (iI 0)), (0, .ref a_o), (1, .ref ag), (2, .int (iI p_o))]) h_o dX3_findHaving_1 rfl (by decide) rfl ?_
  refine k_iconst h_o dX3_findHaving_2 ?_
  refine k_istore (lv' := [(4, .int (iI 1)), (3, .int (iI 0)), (0, .ref a_o), (1, .ref ag), (2, .int (iI p_o))]) h_o dX3_findHaving_3 (by decide) rfl ?_
  have L5 : ∀ (mm : Nat) (x_o : Int) (N1 : Nat → Nat), (1 ≤ x_o ∧ x_o ≤ c_o + 1) → (∀ x_o, N1 x_o ≤ 1000) → (∀ s_o i2 j2 : Int, m_isN s_o → 0 ≤ i2 → i2 ≤ j2 → j2 < c_o → (j2 < p_o ∨ p_o < i2 ∨ j2 - i2 + 1 < x_o) → m_Cn N1 s_o i2 j2 = m_TT g_o nr lt_o s_o i2 j2) → (c_o + 1 - x_o < (mm : Int)) → kG E_o X_o 7 0 0 (kset w_o (q_o + 2) na (kNm N1)) 5 [(0, .ref a_o), (1, .ref ag), (2, .int (iI p_o)), (3, .int (iI (m_fh c_o p_o (x_o - 1).toNat))), (4, .int (iI x_o))] [] := by
    intro mm
    induction mm with
    | zero =>
      intro x_o N1 hx hN1 hT hm_o
      exfalso; omega
    | succ mm ih5 =>
      intro x_o N1 hx hN1 hT hm_o
      have hsp1 : (kSp (kset w_o (q_o + 2) na (kNm N1)) q_o a_o la na lt_o N1 c_o) := hsp.num
      have hgr1 : (kGr (kset w_o (q_o + 2) na (kNm N1)) ag ap nr ra g_o) := hgr.ne (by omega) (by omega) (by omega)
      refine k_iload h_o 4 dX3_findHaving_5 rfl ?_
      refine k_aload_n h_o 0 dX3_findHaving_7 rfl rfl ?_
      refine k_get h_o q_o kf_X3_18 hsp1.1 rfl dX3_findHaving_8 ?_
      refine k_icmp_gt h_o 75 (by omega) (by omega) dX3_findHaving_11 (by decide) (fun h11_o => ?_) (fun h11_o => ?_)
      · refine k_iload_n h_o 3 dX3_findHaving_75 rfl rfl ?_
        exact k_iret h_o hr rfl (⟨_, rfl, (by rw [show x_o - 1 = c_o by omega]; exact (m_fh_eq hp hc_o).symm), N1, rfl, hN1, fun s_o i2 j2 q0 q1 q2 q3 => hT s_o i2 j2 q0 q1 q2 q3 (by omega)⟩) (by omega) (by omega) dX3_findHaving_76
      · refine k_iload_n h_o 2 dX3_findHaving_14 rfl rfl ?_
        refine k_aload_n h_o 0 dX3_findHaving_15 rfl rfl ?_
        refine k_get h_o q_o kf_X3_18 hsp1.1 rfl dX3_findHaving_16 ?_
        refine k_iload h_o 4 dX3_findHaving_19 rfl ?_
        refine k_isub h_o dX3_findHaving_21 ?_
        refine k_min h_o (by omega) (by omega) kq_3_66 kq_3_67 kq_1_15 kq_3_68 ⟨(Nat.le_of_ble_eq_true rfl), (Nat.le_of_ble_eq_true rfl), (Nat.le_of_ble_eq_true rfl), (Nat.le_of_ble_eq_true rfl)⟩ dX3_findHaving_22 ?_
        obtain ⟨u_o, hu⟩ : ∃ u_o : Int, (u_o = p_o ∧ p_o ≤ c_o - x_o) ∨ (u_o = c_o - x_o ∧ c_o - x_o < p_o) := ⟨if p_o ≤ c_o - x_o then p_o else c_o - x_o, by split <;> omega⟩
        refine k_top (z' := u_o) (by split <;> omega) ?_
        refine k_istore (lv' := [(5, .int (iI u_o)), (0, .ref a_o), (1, .ref ag), (2, .int (iI p_o)), (3, .int (iI (m_fh c_o p_o (x_o - 1).toNat))), (4, .int (iI x_o))]) h_o dX3_findHaving_25 (by decide) rfl ?_
        refine k_iconst h_o dX3_findHaving_27 ?_
        refine k_iload_n h_o 3 dX3_findHaving_28 rfl rfl ?_
        refine k_iload h_o 5 dX3_findHaving_29 rfl ?_
        refine k_isub h_o dX3_findHaving_31 ?_
        refine k_iconst h_o dX3_findHaving_32 ?_
        refine k_iadd h_o dX3_findHaving_33 ?_
        refine k_max h_o (by decide) (by omega) kq_3_69 kq_2_22 kq_1_15 kq_2_23 ⟨(Nat.le_of_ble_eq_true rfl), (Nat.le_of_ble_eq_true rfl), (Nat.le_of_ble_eq_true rfl), (Nat.le_of_ble_eq_true rfl)⟩ dX3_findHaving_34 ?_
        obtain ⟨v_o, hv⟩ : ∃ v_o : Int, (v_o = 0 ∧ p_o - x_o + 1 ≤ 0) ∨ (v_o = p_o - x_o + 1 ∧ 0 < p_o - x_o + 1) := ⟨if 0 < p_o - x_o + 1 then p_o - x_o + 1 else 0, by split <;> omega⟩
        refine k_top (z' := v_o) (by split <;> omega) ?_
        refine k_istore (lv' := [(6, .int (iI v_o)), (5, .int (iI u_o)), (0, .ref a_o), (1, .ref ag), (2, .int (iI p_o)), (3, .int (iI (m_fh c_o p_o (x_o - 1).toNat))), (4, .int (iI x_o))]) h_o dX3_findHaving_37 (by decide) rfl ?_
        have L39 : ∀ (mm : Nat) (y_o : Int) (N3 : Nat → Nat), (v_o ≤ y_o ∧ y_o ≤ u_o + 1) → (∀ x_o, N3 x_o ≤ 1000) → (∀ s_o i2 j2 : Int, m_isN s_o → 0 ≤ i2 → i2 ≤ j2 → j2 < c_o → (j2 < p_o ∨ p_o < i2 ∨ j2 - i2 + 1 < x_o ∨ (j2 - i2 + 1 = x_o ∧ i2 < y_o)) → m_Cn N3 s_o i2 j2 = m_TT g_o nr lt_o s_o i2 j2) → (u_o + 1 - y_o < (mm : Int)) → kG E_o X_o 7 0 0 (kset w_o (q_o + 2) na (kNm N3)) 39 [(0, .ref a_o), (1, .ref ag), (2, .int (iI p_o)), (3, .int (iI (m_fh c_o p_o (x_o - 1).toNat + (y_o - v_o)))), (4, .int (iI x_o)), (5, .int (iI u_o)), (6, .int (iI y_o))] [] := by
          intro mm
          induction mm with
          | zero =>
            intro y_o N3 hy hN3 hT3 hm_o
            exfalso; omega
          | succ mm ih39 =>
            intro y_o N3 hy hN3 hT3 hm_o
            have hsp3 : (kSp (kset w_o (q_o + 2) na (kNm N3)) q_o a_o la na lt_o N3 c_o) := hsp.num
            have hgr3 : (kGr (kset w_o (q_o + 2) na (kNm N3)) ag ap nr ra g_o) := hgr.ne (by omega) (by omega) (by omega)
            refine k_iload h_o 6 dX3_findHaving_39 rfl ?_
            refine k_iload h_o 5 dX3_findHaving_41 rfl ?_
            refine k_icmp_gt h_o 69 (by omega) (by omega) dX3_findHaving_43 (by decide) (fun h43_o => ?_) (fun h43_o => ?_)
            · refine k_sub (lv' := [(0, .ref a_o), (1, .ref ag), (2, .int (iI p_o)), (3, .int (iI (m_fh c_o p_o (x_o - 1).toNat + (y_o - v_o)))), (4, .int (iI x_o))]) [0, 1, 2, 3, 4] rfl ?_
              rw [show m_fh c_o p_o (x_o - 1).toNat + (y_o - v_o) = m_fh c_o p_o (x_o + 1 - 1).toNat by rw [show x_o + 1 - 1 = x_o by omega, m_fh_step (x := x_o) (by omega) hu hv]; omega]
              refine k_iinc (lv' := [(4, .int (iI (x_o + 1))), (0, .ref a_o), (1, .ref ag), (2, .int (iI p_o)), (3, .int (iI (m_fh c_o p_o (x_o + 1 - 1).toNat)))]) h_o 4 dX3_findHaving_69 rfl (by decide) rfl ?_
              refine k_goto h_o 5 dX3_findHaving_72 (by decide) ?_
              refine k_sub (lv' := [(0, .ref a_o), (1, .ref ag), (2, .int (iI p_o)), (3, .int (iI (m_fh c_o p_o (x_o + 1 - 1).toNat))), (4, .int (iI (x_o + 1)))]) [1, 2, 3, 4, 0] rfl ?_
              exact ih5 (x_o + 1) N3 (by omega) hN3 (fun s_o i2 j2 q0 q1 q2 q3 q4 => hT3 s_o i2 j2 q0 q1 q2 q3 (by omega)) (by omega)
            · refine k_aload_n h_o 0 dX3_findHaving_46 rfl rfl ?_
              refine k_aload_n h_o 1 dX3_findHaving_47 rfl rfl ?_
              refine k_iload h_o 6 dX3_findHaving_48 rfl ?_
              refine k_iload h_o 6 dX3_findHaving_50 rfl ?_
              refine k_iload h_o 4 dX3_findHaving_52 rfl ?_
              refine k_iadd h_o dX3_findHaving_54 ?_
              refine k_iconst h_o dX3_findHaving_55 ?_
              refine k_isub h_o dX3_findHaving_56 ?_
              refine k_callV (As := [.ref ag, .int (iI y_o), .int (iI ((y_o + x_o) - 1))]) (rest := []) h_o mX3_findSpan kq_1_231 (c_X3_findSpan hl0 hsp3 hlt hN3 hgr3 hwf hq (by omega) (by omega) (fun s_o i2 j2 q0 q1 q2 q3 q4 => hT3 s_o i2 j2 q0 (by omega) q2 (by omega) (by omega))) q_o hsp3.1 rfl rfl rfl (Nat.le_of_ble_eq_true rfl) ⟨rfl, rfl, ⟨(Nat.le_of_ble_eq_true rfl), (Nat.le_of_ble_eq_true rfl)⟩, ⟨(Nat.le_of_ble_eq_true rfl), (Nat.le_of_ble_eq_true rfl)⟩⟩ dX3_findHaving_57 (kcV fun w57_o hp => ?_)
              obtain ⟨N2, rfl, hN2, hne, hol⟩ := hp
              refine k_world kset_kset ?_
              refine k_iinc (lv' := [(3, .int (iI (m_fh c_o p_o (x_o - 1).toNat + (y_o - v_o) + 1))), (0, .ref a_o), (1, .ref ag), (2, .int (iI p_o)), (4, .int (iI x_o)), (5, .int (iI u_o)), (6, .int (iI y_o))]) h_o 3 dX3_findHaving_60 rfl (by decide) rfl ?_
              refine k_iinc (lv' := [(6, .int (iI (y_o + 1))), (3, .int (iI (m_fh c_o p_o (x_o - 1).toNat + (y_o - v_o) + 1))), (0, .ref a_o), (1, .ref ag), (2, .int (iI p_o)), (4, .int (iI x_o)), (5, .int (iI u_o))]) h_o 6 dX3_findHaving_63 rfl (by decide) rfl ?_
              refine k_sub (lv' := [(0, .ref a_o), (1, .ref ag), (2, .int (iI p_o)), (3, .int (iI (m_fh c_o p_o (x_o - 1).toNat + (y_o - v_o) + 1))), (4, .int (iI x_o)), (5, .int (iI u_o)), (6, .int (iI (y_o + 1)))]) [2, 3, 4, 1, 5, 6, 0] rfl ?_
              rw [show m_fh c_o p_o (x_o - 1).toNat + (y_o - v_o) + 1 = m_fh c_o p_o (x_o - 1).toNat + ((y_o + 1) - v_o) by omega]
              refine k_goto h_o 39 dX3_findHaving_66 (by decide) ?_
              exact ih39 (y_o + 1) N2 (by omega) hN2 (fun s_o i2 j2 q0 q1 q2 q3 q4 => if e_o : i2 = y_o ∧ j2 = y_o + x_o - 1 then (by rw [e_o.1, e_o.2]; exact hne s_o q0) else (hol s_o i2 j2 q0 q1 q2 (by omega) (by omega)).trans (hT3 s_o i2 j2 q0 q1 q2 q3 (by omega))) (by omega)
        refine k_sub (lv' := [(0, .ref a_o), (1, .ref ag), (2, .int (iI p_o)), (3, .int (iI (m_fh c_o p_o (x_o - 1).toNat))), (4, .int (iI x_o)), (5, .int (iI u_o)), (6, .int (iI v_o))]) [2, 3, 4, 5, 6, 1, 0] rfl ?_
        rw [show m_fh c_o p_o (x_o - 1).toNat = m_fh c_o p_o (x_o - 1).toNat + (v_o - v_o) by omega]
        exact L39 ((u_o + 1 - v_o : Int).toNat + 1) v_o N1 (by omega) hN1 (fun s_o i2 j2 q0 q1 q2 q3 q4 => hT s_o i2 j2 q0 q1 q2 q3 (by omega)) (by omega)
  refine k_world (w' := (kset w_o (q_o + 2) na (kNm N_o))) (kset_id hsp.2.2).symm ?_
  refine k_sub (lv' := [(0, .ref a_o), (1, .ref ag), (2, .int (iI p_o)), (3, .int (iI 0)), (4, .int (iI 1))]) [2, 3, 4, 1, 0] rfl ?_
  exact L5 ((c_o + 1 - 1 : Int).toNat + 1) 1 N_o (by omega) hN_o (fun s_o i2 j2 q0 q1 q2 q3 q4 => hT0 s_o i2 j2 q0 q1 q2 q3 (by omega)) (by omega)

set_option maxHeartbeats 4000000 in
set_option maxRecDepth 100000 in
theorem c_X3_hasNumbersOf {E_o : kE} {l_o : Launch} (hl0 : l_o.stackTraces = false) {w_o : kW} {q_o a_o la na : Nat} {lt_o : Nat → Int} {N_o : Nat → Nat} {c_o : Int} {q9 a9 la9 na9 : Nat} {lt9 : Nat → Int} {N9 : Nat → Nat} {c9 : Int} (hsp : kSp w_o q_o a_o la na lt_o N_o c_o) (hlt : kLt lt_o) (hN_o : ∀ x_o, N_o x_o ≤ 1000) (hsp9 : kSp w_o q9 a9 la9 na9 lt9 N9 c9) (hlt9 : kLt lt9) (hN9 : ∀ x_o, N9 x_o ≤ 1000) (hc_o : 0 ≤ c_o ∧ c_o ≤ 10) (heq : ∀ s_o i_o j_o : Int, m_isN s_o → 0 ≤ i_o → i_o ≤ j_o → j_o < c_o → m_Cn N_o s_o i_o j_o = m_Cn N9 s_o i_o j_o) : kM E_o l_o yX3_hasNumbersOf (.code yX3_hasNumbersOf cX3_hasNumbersOf 5 (some .boolean) :: kAL) { frames := 1, cells := 0, slots := 0, locals := 23 } 0 0 [.ref a_o, .ref a9] w_o (pI (fun z_o w2_o => 1 = z_o ∧ w_o = w2_o)) := by
  refine kM_of hl0 (by decide +kernel) (Nat.le_of_ble_eq_true rfl) ?_
  intro X_o hXl h_o hr hin
  subst hXl
  show kG E_o X_o 5 0 0 w_o 0 [(0, .ref a_o), (1, .ref a9)] []
  refine k_bipush h_o dX3_hasNumbersOf_0 (by decide) ?_
  refine k_istore_n (lv' := [(2, .int (iI 10)), (0, .ref a_o), (1, .ref a9)]) h_o dX3_hasNumbersOf_2 rfl (by decide) rfl ?_
  have L3 : ∀ (mm : Nat) (s_o : Int), (10 ≤ s_o ∧ s_o ≤ 15) → (15 - s_o < (mm : Int)) → kG E_o X_o 5 0 0 w_o 3 [(0, .ref a_o), (1, .ref a9), (2, .int (iI s_o))] [] := by
    intro mm
    induction mm with
    | zero =>
      intro s_o hs hm_o
      exfalso; omega
    | succ mm ih3 =>
      intro s_o hs hm_o
      refine k_iload_n h_o 2 dX3_hasNumbersOf_3 rfl rfl ?_
      refine k_bipush h_o dX3_hasNumbersOf_4 (by decide) ?_
      refine k_icmp_ge h_o 70 (by omega) (by decide) dX3_hasNumbersOf_6 (by decide) (fun h6_o => ?_) (fun h6_o => ?_)
      · refine k_iconst h_o dX3_hasNumbersOf_70 ?_
        exact k_iret h_o hr rfl (⟨_, rfl, rfl, rfl⟩) (by omega) (by omega) dX3_hasNumbersOf_71
      · refine k_iconst h_o dX3_hasNumbersOf_9 ?_
        refine k_istore_n (lv' := [(3, .int (iI 0)), (0, .ref a_o), (1, .ref a9), (2, .int (iI s_o))]) h_o dX3_hasNumbersOf_10 rfl (by decide) rfl ?_
        have L11 : ∀ (mm : Nat) (i_o : Int), (0 ≤ i_o ∧ i_o ≤ c_o) → (c_o - i_o < (mm : Int)) → kG E_o X_o 5 0 0 w_o 11 [(0, .ref a_o), (1, .ref a9), (2, .int (iI s_o)), (3, .int (iI i_o))] [] := by
          intro mm
          induction mm with
          | zero =>
            intro i_o hi_o hm_o
            exfalso; omega
          | succ mm ih11 =>
            intro i_o hi_o hm_o
            refine k_iload_n h_o 3 dX3_hasNumbersOf_11 rfl rfl ?_
            refine k_aload_n h_o 0 dX3_hasNumbersOf_12 rfl rfl ?_
            refine k_get h_o q_o kf_X3_18 hsp.1 rfl dX3_hasNumbersOf_13 ?_
            refine k_icmp_ge h_o 64 (by omega) (by omega) dX3_hasNumbersOf_16 (by decide) (fun h16_o => ?_) (fun h16_o => ?_)
            · refine k_iinc (lv' := [(2, .int (iI (s_o + 1))), (0, .ref a_o), (1, .ref a9), (3, .int (iI i_o))]) h_o 2 dX3_hasNumbersOf_64 rfl (by decide) rfl ?_
              refine k_goto h_o 3 dX3_hasNumbersOf_67 (by decide) ?_
              refine k_sub (lv' := [(0, .ref a_o), (1, .ref a9), (2, .int (iI (s_o + 1)))]) [1, 2, 0] rfl ?_
              exact ih3 (s_o + 1) (by omega) (by omega)
            · refine k_iload_n h_o 3 dX3_hasNumbersOf_19 rfl rfl ?_
              refine k_istore (lv' := [(4, .int (iI i_o)), (0, .ref a_o), (1, .ref a9), (2, .int (iI s_o)), (3, .int (iI i_o))]) h_o dX3_hasNumbersOf_20 (by decide) rfl ?_
              have L22 : ∀ (mm : Nat) (j_o : Int), (i_o ≤ j_o ∧ j_o ≤ c_o) → (c_o - j_o < (mm : Int)) → kG E_o X_o 5 0 0 w_o 22 [(0, .ref a_o), (1, .ref a9), (2, .int (iI s_o)), (3, .int (iI i_o)), (4, .int (iI j_o))] [] := by
                intro mm
                induction mm with
                | zero =>
                  intro j_o hj hm_o
                  exfalso; omega
                | succ mm ih22 =>
                  intro j_o hj hm_o
                  refine k_iload h_o 4 dX3_hasNumbersOf_22 rfl ?_
                  refine k_aload_n h_o 0 dX3_hasNumbersOf_24 rfl rfl ?_
                  refine k_get h_o q_o kf_X3_18 hsp.1 rfl dX3_hasNumbersOf_25 ?_
                  refine k_icmp_ge h_o 58 (by omega) (by omega) dX3_hasNumbersOf_28 (by decide) (fun h28_o => ?_) (fun h28_o => ?_)
                  · refine k_iinc (lv' := [(3, .int (iI (i_o + 1))), (0, .ref a_o), (1, .ref a9), (2, .int (iI s_o)), (4, .int (iI j_o))]) h_o 3 dX3_hasNumbersOf_58 rfl (by decide) rfl ?_
                    refine k_goto h_o 11 dX3_hasNumbersOf_61 (by decide) ?_
                    refine k_sub (lv' := [(0, .ref a_o), (1, .ref a9), (2, .int (iI s_o)), (3, .int (iI (i_o + 1)))]) [1, 2, 3, 0] rfl ?_
                    exact ih11 (i_o + 1) (by omega) (by omega)
                  · refine k_aload_n h_o 0 dX3_hasNumbersOf_31 rfl rfl ?_
                    refine k_iload_n h_o 2 dX3_hasNumbersOf_32 rfl rfl ?_
                    refine k_iload_n h_o 3 dX3_hasNumbersOf_33 rfl rfl ?_
                    refine k_iload h_o 4 dX3_hasNumbersOf_34 rfl ?_
                    refine k_callV (As := [.int (iI s_o), .int (iI i_o), .int (iI j_o)]) (rest := []) h_o mX3_treesOf kq_1_177 (c_X3_treesOf hl0 hsp hlt hN_o (by omega) (by omega) (by omega)) q_o hsp.1 rfl rfl rfl (Nat.le_of_ble_eq_true rfl) ⟨rfl, rfl, ⟨(Nat.le_of_ble_eq_true rfl), (Nat.le_of_ble_eq_true rfl)⟩, ⟨(Nat.le_of_ble_eq_true rfl), (Nat.le_of_ble_eq_true rfl)⟩⟩ dX3_hasNumbersOf_36 (kcI fun z36_o w36_o hp => ?_)
                    obtain ⟨rfl, rfl⟩ := hp
                    refine k_aload_n h_o 1 dX3_hasNumbersOf_39 rfl rfl ?_
                    refine k_iload_n h_o 2 dX3_hasNumbersOf_40 rfl rfl ?_
                    refine k_iload_n h_o 3 dX3_hasNumbersOf_41 rfl rfl ?_
                    refine k_iload h_o 4 dX3_hasNumbersOf_42 rfl ?_
                    refine k_callV (As := [.int (iI s_o), .int (iI i_o), .int (iI j_o)]) (rest := [.int (iI ((m_tr N_o lt_o s_o i_o j_o : Nat) : Int))]) h_o mX3_treesOf kq_1_177 (c_X3_treesOf hl0 hsp9 hlt9 hN9 (by omega) (by omega) (by omega)) q9 hsp9.1 rfl rfl rfl (Nat.le_of_ble_eq_true rfl) ⟨rfl, rfl, ⟨(Nat.le_of_ble_eq_true rfl), (Nat.le_of_ble_eq_true rfl)⟩, ⟨(Nat.le_of_ble_eq_true rfl), (Nat.le_of_ble_eq_true rfl)⟩⟩ dX3_hasNumbersOf_44 (kcI fun z44_o w44_o hp => ?_)
                    obtain ⟨rfl, rfl⟩ := hp
                    refine k_icmp_eq h_o 52 (m_natrg (m_tr_le hN_o)) (m_natrg (m_tr_le hN9)) dX3_hasNumbersOf_47 (by decide) (fun h47_o => ?_) (fun h47_o => ?_)
                    · refine k_iinc (lv' := [(4, .int (iI (j_o + 1))), (0, .ref a_o), (1, .ref a9), (2, .int (iI s_o)), (3, .int (iI i_o))]) h_o 4 dX3_hasNumbersOf_52 rfl (by decide) rfl ?_
                      refine k_goto h_o 22 dX3_hasNumbersOf_55 (by decide) ?_
                      refine k_sub (lv' := [(0, .ref a_o), (1, .ref a9), (2, .int (iI s_o)), (3, .int (iI i_o)), (4, .int (iI (j_o + 1)))]) [1, 2, 3, 4, 0] rfl ?_
                      exact ih22 (j_o + 1) (by omega) (by omega)
                    · exfalso; exact h47_o (by rw [m_tr_s (by omega) (by omega), m_tr_s (by omega) (by omega)]; unfold m_part; rw [if_neg (by omega), if_neg (by omega), heq s_o i_o j_o (by omega) (by omega) (by omega) (by omega)])
              refine k_sub (lv' := [(0, .ref a_o), (1, .ref a9), (2, .int (iI s_o)), (3, .int (iI i_o)), (4, .int (iI i_o))]) [1, 2, 3, 4, 0] rfl ?_
              exact L22 ((c_o - i_o : Int).toNat + 1) i_o (by omega) (by omega)
        refine k_sub (lv' := [(0, .ref a_o), (1, .ref a9), (2, .int (iI s_o)), (3, .int (iI 0))]) [1, 2, 3, 0] rfl ?_
        exact L11 ((c_o - 0 : Int).toNat + 1) 0 (by omega) (by omega)
  refine k_sub (lv' := [(0, .ref a_o), (1, .ref a9), (2, .int (iI 10))]) [1, 2, 0] rfl ?_
  exact L3 ((15 - 10 : Int).toNat + 1) 10 (by omega) (by omega)

set_option maxHeartbeats 4000000 in
set_option maxRecDepth 100000 in
theorem c_X3_copyLetters {E_o : kE} {l_o : Launch} (hl0 : l_o.stackTraces = false) {w_o : kW} {q_o a_o la na : Nat} {lt_o : Nat → Int} {N_o : Nat → Nat} {c_o : Int} {q9 a9 la9 na9 : Nat} {lt9 : Nat → Int} {N9 : Nat → Nat} {c9 : Int} (hsp : kSp w_o q_o a_o la na lt_o N_o c_o) (hsp9 : kSp w_o q9 a9 la9 na9 lt9 N9 c9) (hc9 : 0 ≤ c9 ∧ c9 ≤ 10) (hqq : q_o + 2 < q9 ∨ q9 + 2 < q_o) : kM E_o l_o yX3_copyLetters (.code yX3_copyLetters cX3_copyLetters 3 none :: kAL) { frames := 1, cells := 0, slots := 0, locals := 22 } 0 0 [.ref a_o, .ref a9] w_o (pV (fun w2_o => kset (kset w_o q_o a_o (ob 5 [.ref la, .ref na, .int (iI c9)])) (q_o + 1) la (ai 10 (m_cpl lt_o lt9 c9)) = w2_o)) := by
  refine kM_of hl0 (by decide +kernel) (Nat.le_of_ble_eq_true rfl) ?_
  intro X_o hXl h_o hr hin
  subst hXl
  show kG E_o X_o 3 0 0 w_o 0 [(0, .ref a_o), (1, .ref a9)] []
  refine k_aload_n h_o 0 dX3_copyLetters_0 rfl rfl ?_
  refine k_aload_n h_o 1 dX3_copyLetters_1 rfl rfl ?_
  refine k_get h_o q9 kf_X3_18 hsp9.1 rfl dX3_copyLetters_2 ?_
  refine k_put (fs' := [.ref la, .ref na, .int (iI c9)]) h_o q_o kf_X3_18 kt_X3_2 hsp.1 rfl rfl (Nat.le_of_ble_eq_true rfl) rfl dX3_copyLetters_5 ?_
  refine k_iconst h_o dX3_copyLetters_8 ?_
  refine k_istore_n (lv' := [(2, .int (iI 0)), (0, .ref a_o), (1, .ref a9)]) h_o dX3_copyLetters_9 rfl (by decide) rfl ?_
  have L10 : ∀ (mm : Nat) (p_o : Int), (0 ≤ p_o ∧ p_o ≤ c9) → (c9 - p_o < (mm : Int)) → kG E_o X_o 3 0 0 (kset (kset w_o q_o a_o (ob 5 [.ref la, .ref na, .int (iI c9)])) (q_o + 1) la (ai 10 (m_cpl lt_o lt9 p_o))) 10 [(0, .ref a_o), (1, .ref a9), (2, .int (iI p_o))] [] := by
    intro mm
    induction mm with
    | zero =>
      intro p_o hp hm_o
      exfalso; omega
    | succ mm ih10 =>
      intro p_o hp hm_o
      have hsp1 : kSp (kset (kset w_o q_o a_o (ob 5 [.ref la, .ref na, .int (iI c9)])) (q_o + 1) la (ai 10 (m_cpl lt_o lt9 p_o))) q_o a_o la na (m_cpl lt_o lt9 p_o) N_o c9 := ⟨(kset_ne (by omega)).trans kset_eq, kset_eq, (kset_ne (by omega)).trans ((kset_ne (by omega)).trans hsp.2.2)⟩
      have hsp2 : kSp (kset (kset w_o q_o a_o (ob 5 [.ref la, .ref na, .int (iI c9)])) (q_o + 1) la (ai 10 (m_cpl lt_o lt9 p_o))) q9 a9 la9 na9 lt9 N9 c9 := (hsp9.ne (by omega) (by omega) (by omega)).ne (by omega) (by omega) (by omega)
      refine k_iload_n h_o 2 dX3_copyLetters_10 rfl rfl ?_
      refine k_aload_n h_o 0 dX3_copyLetters_11 rfl rfl ?_
      refine k_get h_o q_o kf_X3_18 hsp1.1 rfl dX3_copyLetters_12 ?_
      refine k_icmp_ge h_o 34 (by omega) (by omega) dX3_copyLetters_15 (by decide) (fun h15_o => ?_) (fun h15_o => ?_)
      · exact k_vret h_o hr (⟨rfl, (by rw [show p_o = c9 by omega])⟩) (by omega) (by omega) dX3_copyLetters_34
      · refine k_aload_n h_o 0 dX3_copyLetters_18 rfl rfl ?_
        refine k_iload_n h_o 2 dX3_copyLetters_19 rfl rfl ?_
        refine k_aload_n h_o 1 dX3_copyLetters_20 rfl rfl ?_
        refine k_iload_n h_o 2 dX3_copyLetters_21 rfl rfl ?_
        refine k_callV (As := [.int (iI p_o)]) (rest := [.int (iI p_o), .ref a_o]) h_o mX3_letterOf kq_1_219 (c_X3_letterOf hl0 hsp2 (by omega)) q9 hsp2.1 rfl rfl rfl (Nat.le_of_ble_eq_true rfl) ⟨rfl, rfl, ⟨(Nat.le_of_ble_eq_true rfl), (Nat.le_of_ble_eq_true rfl)⟩, ⟨(Nat.le_of_ble_eq_true rfl), (Nat.le_of_ble_eq_true rfl)⟩⟩ dX3_copyLetters_22 (kcI fun z22_o w22_o hp => ?_)
        obtain ⟨rfl, rfl⟩ := hp
        refine k_callV (As := [.int (iI p_o), .int (iI (lt9 ((p_o).toNat)))]) (rest := []) h_o mX3_put kq_1_223 (c_X3_put hl0 hsp1 (by omega)) q_o hsp1.1 rfl rfl rfl (Nat.le_of_ble_eq_true rfl) ⟨rfl, rfl, ⟨(Nat.le_of_ble_eq_true rfl), (Nat.le_of_ble_eq_true rfl)⟩, ⟨(Nat.le_of_ble_eq_true rfl), (Nat.le_of_ble_eq_true rfl)⟩⟩ dX3_copyLetters_25 (kcV fun w25_o hp => ?_)
        subst hp
        refine k_iinc (lv' := [(2, .int (iI (p_o + 1))), (0, .ref a_o), (1, .ref a9)]) h_o 2 dX3_copyLetters_28 rfl (by decide) rfl ?_
        refine k_goto h_o 10 dX3_copyLetters_31 (by decide) ?_
        refine k_world (w' := (kset (kset w_o q_o a_o (ob 5 [.ref la, .ref na, .int (iI c9)])) (q_o + 1) la (ai 10 (m_cpl lt_o lt9 (p_o + 1))))) (by rw [kset_kset, m_cpl_s hp.1]) ?_
        refine k_sub (lv' := [(0, .ref a_o), (1, .ref a9), (2, .int (iI (p_o + 1)))]) [1, 2, 0] rfl ?_
        exact ih10 (p_o + 1) (by omega) (by omega)
  refine k_world (w' := (kset (kset w_o q_o a_o (ob 5 [.ref la, .ref na, .int (iI c9)])) (q_o + 1) la (ai 10 (m_cpl lt_o lt9 0)))) (by rw [m_cpl_0]; exact (kset_id ((kset_ne (by omega)).trans hsp.2.1)).symm) ?_
  refine k_sub (lv' := [(0, .ref a_o), (1, .ref a9), (2, .int (iI 0))]) [1, 2, 0] rfl ?_
  exact L10 ((c9 - 0 : Int).toNat + 1) 0 (by omega) (by omega)

set_option maxHeartbeats 4000000 in
set_option maxRecDepth 100000 in
theorem c_J7_fill_53178 {E_o : kE} {l_o : Launch} (hl0 : l_o.stackTraces = false) {w_o : kW} {q_o a_o M_o : Nat} {f_o : Nat → Int} {v_o : Int} (ha : w_o q_o = some (a_o, ai M_o f_o)) (hM : M_o < 100000) : kM E_o l_o yJ7_fill_53178 (.code yJ7_fill_53178 cJ7_fill_53178 4 none :: kAL) { frames := 0, cells := 0, slots := 0, locals := 0 } 0 0 [.ref a_o, .int (iI v_o)] w_o (pV (fun w2_o => kset w_o q_o a_o (ai M_o (m_fl f_o v_o M_o)) = w2_o)) := by
  refine kM_of hl0 (by decide +kernel) (Nat.le_of_ble_eq_true rfl) ?_
  intro X_o hXl h_o hr hin
  subst hXl
  show kG E_o X_o 4 0 0 w_o 0 [(0, .ref a_o), (1, .int (iI v_o))] []
  refine k_iconst h_o dJ7_fill_53178_0 ?_
  refine k_istore_n (lv' := [(2, .int (iI 0)), (0, .ref a_o), (1, .int (iI v_o))]) h_o dJ7_fill_53178_1 rfl (by decide) rfl ?_
  refine k_aload_n h_o 1 dJ7_fill_53178_2 rfl rfl ?_
  refine k_alen h_o q_o ha rfl dJ7_fill_53178_3 ?_
  refine k_istore_n (lv' := [(3, .int (iI (M_o : Int))), (2, .int (iI 0)), (0, .ref a_o), (1, .int (iI v_o))]) h_o dJ7_fill_53178_4 rfl (by decide) rfl ?_
  have L5 : ∀ (mm : Nat) (p_o : Int), (0 ≤ p_o ∧ p_o ≤ (M_o : Int)) → (M_o : Int) - p_o < (mm : Int) → kG E_o X_o 4 0 0 (kset w_o q_o a_o (ai M_o (m_fl f_o v_o p_o))) 5 [(0, .ref a_o), (1, .int (iI v_o)), (2, .int (iI p_o)), (3, .int (iI (M_o : Int)))] [] := by
    intro mm
    induction mm with
    | zero =>
      intro p_o hp hm_o
      exfalso; omega
    | succ mm ih5 =>
      intro p_o hp hm_o
      refine k_iload_n h_o 2 dJ7_fill_53178_5 rfl rfl ?_
      refine k_iload_n h_o 3 dJ7_fill_53178_6 rfl rfl ?_
      refine k_icmp_ge h_o 20 (by omega) (by omega) dJ7_fill_53178_7 (by decide) (fun h7_o => ?_) (fun h7_o => ?_)
      · exact k_vret h_o hr (⟨rfl, (by rw [show p_o = (M_o : Int) by omega])⟩) (by omega) (by omega) dJ7_fill_53178_20
      · refine k_aload_n h_o 0 dJ7_fill_53178_10 rfl rfl ?_
        refine k_iload_n h_o 2 dJ7_fill_53178_11 rfl rfl ?_
        refine k_iload_n h_o 1 dJ7_fill_53178_12 rfl rfl ?_
        refine k_iast h_o q_o kset_eq (by omega) (by omega) dJ7_fill_53178_13 ?_
        refine k_iinc (lv' := [(2, .int (iI (p_o + 1))), (0, .ref a_o), (1, .int (iI v_o)), (3, .int (iI (M_o : Int)))]) h_o 2 dJ7_fill_53178_14 rfl (by decide) rfl ?_
        refine k_goto h_o 5 dJ7_fill_53178_17 (by decide) ?_
        refine k_world (w' := (kset w_o q_o a_o (ai M_o (m_fl f_o v_o (p_o + 1))))) (by rw [kset_kset, m_fl_s hp.1]) ?_
        refine k_sub (lv' := [(0, .ref a_o), (1, .int (iI v_o)), (2, .int (iI (p_o + 1))), (3, .int (iI (M_o : Int)))]) [1, 2, 0, 3] rfl ?_
        exact ih5 (p_o + 1) (by omega) (by omega)
  refine k_world (w' := (kset w_o q_o a_o (ai M_o (m_fl f_o v_o (0 : Int))))) (by rw [m_fl_0]; exact (kset_id ha).symm) ?_
  refine k_sub (lv' := [(0, .ref a_o), (1, .int (iI v_o)), (2, .int (iI 0)), (3, .int (iI (M_o : Int)))]) [2, 3, 1, 0] rfl ?_
  exact L5 (((M_o : Int) - 0 : Int).toNat + 1) 0 (by omega) (by omega)

set_option maxHeartbeats 4000000 in
set_option maxRecDepth 100000 in
theorem c_X3_startRow {E_o : kE} {l_o : Launch} (hl0 : l_o.stackTraces = false) {w_o : kW} {q_o a_o la na : Nat} {lt_o : Nat → Int} {N_o : Nat → Nat} {c_o : Int} {x_o : Int} (hsp : kSp w_o q_o a_o la na lt_o N_o c_o) (hx : 1 ≤ x_o ∧ x_o ≤ 10) : kM E_o l_o yX3_startRow (.code yX3_startRow cX3_startRow 2 none :: kAL) { frames := 1, cells := 0, slots := 0, locals := 23 } 0 0 [.ref a_o, .int (iI x_o)] w_o (pV (fun w2_o => kset (kset w_o q_o a_o (ob 5 [.ref la, .ref na, .int (iI x_o)])) (q_o + 1) la (ai 10 (m_fl lt_o 0 ((10 : Nat) : Int))) = w2_o)) := by
  refine kM_of hl0 (by decide +kernel) (Nat.le_of_ble_eq_true rfl) ?_
  intro X_o hXl h_o hr hin
  subst hXl
  show kG E_o X_o 2 0 0 w_o 0 [(0, .ref a_o), (1, .int (iI x_o))] []
  refine k_aload_n h_o 0 dX3_startRow_0 rfl rfl ?_
  refine k_iload_n h_o 1 dX3_startRow_1 rfl rfl ?_
  refine k_bipush h_o dX3_startRow_2 (by decide) ?_
  refine k_min h_o (by omega) (by decide) kq_3_66 kq_3_67 kq_1_15 kq_3_68 ⟨(Nat.le_of_ble_eq_true rfl), (Nat.le_of_ble_eq_true rfl), (Nat.le_of_ble_eq_true rfl), (Nat.le_of_ble_eq_true rfl)⟩ dX3_startRow_4 ?_
  refine k_top (z' := x_o) (if_pos (by omega)) ?_
  refine k_put (fs' := [.ref la, .ref na, .int (iI x_o)]) h_o q_o kf_X3_18 kt_X3_2 hsp.1 rfl rfl (Nat.le_of_ble_eq_true rfl) rfl dX3_startRow_7 ?_
  refine k_aload_n h_o 0 dX3_startRow_10 rfl rfl ?_
  refine k_get h_o q_o kf_X3_9 kset_eq rfl dX3_startRow_11 ?_
  refine k_iconst h_o dX3_startRow_14 ?_
  refine k_callS (As := [.ref la, .int (iI 0)]) (rest := []) h_o mJ7_fill_53178 kq_4_74 (c_J7_fill_53178 hl0 ((kset_ne (by omega)).trans hsp.2.1) (by decide)) rfl rfl (Nat.le_of_ble_eq_true rfl) ⟨rfl, rfl, ⟨(Nat.le_of_ble_eq_true rfl), (Nat.le_of_ble_eq_true rfl)⟩, ⟨(Nat.le_of_ble_eq_true rfl), (Nat.le_of_ble_eq_true rfl)⟩⟩ dX3_startRow_15 (kcV fun w15_o hp => ?_)
  subst hp
  exact k_vret h_o hr (⟨rfl, rfl⟩) (by omega) (by omega) dX3_startRow_18

set_option maxHeartbeats 4000000 in
set_option maxRecDepth 100000 in
theorem c_X3_nextRow {E_o : kE} {l_o : Launch} (hl0 : l_o.stackTraces = false) {w_o : kW} {q_o a_o la na : Nat} {lt_o : Nat → Int} {N_o : Nat → Nat} {c_o : Int} {K_o : Int} (hsp : kSp w_o q_o a_o la na lt_o N_o c_o) (hlt : kLt lt_o) (hc_o : 1 ≤ c_o ∧ c_o ≤ 10) (hK : 1 ≤ K_o ∧ K_o ≤ 3) : kM E_o l_o yX3_nextRow (.code yX3_nextRow cX3_nextRow 4 (some .boolean) :: kAL) { frames := 1, cells := 0, slots := 0, locals := 22 } 0 0 [.ref a_o, .int (iI K_o)] w_o (pI (fun z_o w2_o => bI ((m_nx K_o c_o.toNat lt_o).1 = true) = z_o ∧ kset w_o (q_o + 1) la (ai 10 (m_nx K_o c_o.toNat lt_o).2) = w2_o)) := by
  refine kM_of hl0 (by decide +kernel) (Nat.le_of_ble_eq_true rfl) ?_
  intro X_o hXl h_o hr hin
  subst hXl
  show kG E_o X_o 4 0 0 w_o 0 [(0, .ref a_o), (1, .int (iI K_o))] []
  refine k_aload_n h_o 0 dX3_nextRow_0 rfl rfl ?_
  refine k_get h_o q_o kf_X3_18 hsp.1 rfl dX3_nextRow_1 ?_
  refine k_iconst h_o dX3_nextRow_4 ?_
  refine k_isub h_o dX3_nextRow_5 ?_
  refine k_istore_n (lv' := [(2, .int (iI (c_o - 1))), (0, .ref a_o), (1, .int (iI K_o))]) h_o dX3_nextRow_6 rfl (by decide) rfl ?_
  have L7 : ∀ (mm : Nat) (p_o : Int) (f_o : Nat → Int), (-1 ≤ p_o ∧ p_o < c_o) → (kLt f_o) → (m_nx K_o (p_o + 1).toNat f_o = m_nx K_o c_o.toNat lt_o) → (p_o + 1 < (mm : Int)) → kG E_o X_o 4 0 0 (kset w_o (q_o + 1) la (ai 10 f_o)) 7 [(0, .ref a_o), (1, .int (iI K_o)), (2, .int (iI p_o))] [] := by
    intro mm
    induction mm with
    | zero =>
      intro p_o f_o hp hfl hnx hm_o
      exfalso; omega
    | succ mm ih7 =>
      intro p_o f_o hp hfl hnx hm_o
      have hsp1 : (kSp (kset w_o (q_o + 1) la (ai 10 f_o)) q_o a_o la na f_o N_o c_o) := hsp.let
      refine k_iload_n h_o 2 dX3_nextRow_7 rfl rfl ?_
      refine k_iflt h_o 44 (by omega) dX3_nextRow_8 (by decide) (fun h8_o => ?_) (fun h8_o => ?_)
      · refine k_iconst h_o dX3_nextRow_44 ?_
        exact k_iret h_o hr rfl (⟨_, rfl, (bI_f (by rw [← hnx, show (p_o + 1).toNat = 0 by omega]; exact fun q_o => by cases q_o)), (by rw [← hnx, show (p_o + 1).toNat = 0 by omega]; rfl)⟩) (by omega) (by omega) dX3_nextRow_45
      · refine k_aload_n h_o 0 dX3_nextRow_11 rfl rfl ?_
        refine k_iload_n h_o 2 dX3_nextRow_12 rfl rfl ?_
        refine k_callV (As := [.int (iI p_o)]) (rest := []) h_o mX3_letterOf kq_1_219 (c_X3_letterOf hl0 hsp1 (by omega)) q_o hsp1.1 rfl rfl rfl (Nat.le_of_ble_eq_true rfl) ⟨rfl, rfl, ⟨(Nat.le_of_ble_eq_true rfl), (Nat.le_of_ble_eq_true rfl)⟩, ⟨(Nat.le_of_ble_eq_true rfl), (Nat.le_of_ble_eq_true rfl)⟩⟩ dX3_nextRow_13 (kcI fun z13_o w13_o hp => ?_)
        obtain ⟨rfl, rfl⟩ := hp
        refine k_iconst h_o dX3_nextRow_16 ?_
        refine k_iadd h_o dX3_nextRow_17 ?_
        refine k_istore_n (lv' := [(3, .int (iI ((f_o ((p_o).toNat)) + 1))), (0, .ref a_o), (1, .int (iI K_o)), (2, .int (iI p_o))]) h_o dX3_nextRow_18 rfl (by decide) rfl ?_
        refine k_iload_n h_o 0 dX3_nextRow_19 rfl rfl ?_
        refine k_iload_n h_o 2 dX3_nextRow_20 rfl rfl ?_
        refine k_icmp_ge h_o 32 (by have := hfl ((p_o).toNat); omega) (by omega) dX3_nextRow_21 (by decide) (fun h21_o => ?_) (fun h21_o => ?_)
        · refine k_aload_n h_o 1 dX3_nextRow_32 rfl rfl ?_
          refine k_iload_n h_o 3 dX3_nextRow_33 rfl rfl ?_
          refine k_iconst h_o dX3_nextRow_34 ?_
          refine k_callV (As := [.int (iI p_o), .int (iI 0)]) (rest := []) h_o mX3_put kq_1_223 (c_X3_put hl0 hsp1 (by omega)) q_o hsp1.1 rfl rfl rfl (Nat.le_of_ble_eq_true rfl) ⟨rfl, rfl, ⟨(Nat.le_of_ble_eq_true rfl), (Nat.le_of_ble_eq_true rfl)⟩, ⟨(Nat.le_of_ble_eq_true rfl), (Nat.le_of_ble_eq_true rfl)⟩⟩ dX3_nextRow_35 (kcV fun w35_o hp => ?_)
          subst hp
          refine k_iinc (lv' := [(2, .int (iI (p_o + (-1)))), (3, .int (iI ((f_o ((p_o).toNat)) + 1))), (0, .ref a_o), (1, .int (iI K_o))]) h_o 3 dX3_nextRow_38 rfl (by decide) rfl ?_
          refine k_goto h_o 7 dX3_nextRow_41 (by decide) ?_
          refine k_world (w' := (kset w_o (q_o + 1) la (ai 10 (kup f_o p_o.toNat 0)))) kset_kset ?_
          refine k_sub (lv' := [(0, .ref a_o), (1, .int (iI K_o)), (2, .int (iI (p_o + (-1))))]) [2, 3, 0] rfl ?_
          exact ih7 (p_o - 1) (kup f_o p_o.toNat 0) (by omega) (kLt_up hfl (by decide)) (by rw [show p_o - 1 + 1 = p_o by omega, ← m_nx_f (by omega) (by omega)]; exact hnx) (by omega)
        · refine k_aload_n h_o 1 dX3_nextRow_24 rfl rfl ?_
          refine k_iload_n h_o 3 dX3_nextRow_25 rfl rfl ?_
          refine k_iload_n h_o 0 dX3_nextRow_26 rfl rfl ?_
          refine k_callV (As := [.int (iI p_o), .int (iI ((f_o ((p_o).toNat)) + 1))]) (rest := []) h_o mX3_put kq_1_223 (c_X3_put hl0 hsp1 (by omega)) q_o hsp1.1 rfl rfl rfl (Nat.le_of_ble_eq_true rfl) ⟨rfl, rfl, ⟨(Nat.le_of_ble_eq_true rfl), (Nat.le_of_ble_eq_true rfl)⟩, ⟨(Nat.le_of_ble_eq_true rfl), (Nat.le_of_ble_eq_true rfl)⟩⟩ dX3_nextRow_27 (kcV fun w27_o hp => ?_)
          subst hp
          refine k_iconst h_o dX3_nextRow_30 ?_
          exact k_iret h_o hr rfl (⟨_, rfl, (bI_t (by rw [← hnx, m_nx_t (by omega) (by omega)])), (by rw [kset_kset, ← hnx, m_nx_t (by omega) (by omega)])⟩) (by omega) (by omega) dX3_nextRow_31
  refine k_world (w' := (kset w_o (q_o + 1) la (ai 10 lt_o))) (kset_id hsp.2.1).symm ?_
  refine k_sub (lv' := [(0, .ref a_o), (1, .int (iI K_o)), (2, .int (iI (c_o - 1)))]) [1, 2, 0] rfl ?_
  exact L7 (((c_o - 1) + 1 : Int).toNat + 1) (c_o - 1) lt_o (by omega) hlt (by rw [show c_o - 1 + 1 = c_o by omega]) (by omega)

set_option maxHeartbeats 4000000 in
set_option maxRecDepth 100000 in
theorem c_X3_hasLettersOf {E_o : kE} {l_o : Launch} (hl0 : l_o.stackTraces = false) {w_o : kW} {q_o a_o la na : Nat} {lt_o : Nat → Int} {N_o : Nat → Nat} {c_o : Int} {r_o b_o : Nat} {g_o : Nat → Nat → Int} (hsp : kSp w_o q_o a_o la na lt_o N_o c_o) (hlt : kLt lt_o) (hc_o : 0 ≤ c_o ∧ c_o ≤ 10) (hru : w_o (100 + r_o) = some (b_o, kRl g_o r_o)) (hwr : m_wf g_o r_o) : kM E_o l_o yX3_hasLettersOf (.code yX3_hasLettersOf cX3_hasLettersOf 2 (some .boolean) :: kAL) { frames := 2, cells := 0, slots := 0, locals := 43 } 0 0 [.ref a_o, .ref b_o] w_o (pI (fun z_o w2_o => bI (m_has lt_o c_o g_o r_o) = z_o ∧ w_o = w2_o)) := by
  refine kM_of hl0 (by decide +kernel) (Nat.le_of_ble_eq_true rfl) ?_
  intro X_o hXl h_o hr hin
  subst hXl
  obtain ⟨hw1, hw2, hw3⟩ := hwr
  show kG E_o X_o 2 0 0 w_o 0 [(0, .ref a_o), (1, .ref b_o)] []
  refine k_aload_n h_o 0 dX3_hasLettersOf_0 rfl rfl ?_
  refine k_aload_n h_o 1 dX3_hasLettersOf_1 rfl rfl ?_
  refine k_get h_o (100 + r_o) kf_X3_42 hru rfl dX3_hasLettersOf_2 ?_
  refine k_callV (As := [.int (iI (g_o 2 r_o))]) (rest := []) h_o mX3_hasIfLetter kq_2_219 (c_X3_hasIfLetter hl0 hsp hlt hc_o (Or.inr hw2)) q_o hsp.1 rfl rfl rfl (Nat.le_of_ble_eq_true rfl) ⟨rfl, rfl, ⟨(Nat.le_of_ble_eq_true rfl), (Nat.le_of_ble_eq_true rfl)⟩, ⟨(Nat.le_of_ble_eq_true rfl), (Nat.le_of_ble_eq_true rfl)⟩⟩ dX3_hasLettersOf_5 (kcI fun z5_o w5_o hp => ?_)
  obtain ⟨rfl, rfl⟩ := hp
  refine k_ifBeq h_o 37 dX3_hasLettersOf_8 (by decide) (fun h8_o => ?_) (fun h8_o => ?_)
  · refine k_iconst h_o dX3_hasLettersOf_37 ?_
    exact k_iret h_o hr rfl (⟨_, rfl, (bI_f (fun q_o => by first | exact h30_o q_o.2.2 | exact h19_o q_o.2.1 | exact h8_o q_o.1)), rfl⟩) (by omega) (by omega) dX3_hasLettersOf_38
  · refine k_aload_n h_o 0 dX3_hasLettersOf_11 rfl rfl ?_
    refine k_aload_n h_o 1 dX3_hasLettersOf_12 rfl rfl ?_
    refine k_get h_o (100 + r_o) kf_X3_51 hru rfl dX3_hasLettersOf_13 ?_
    refine k_callV (As := [.int (iI (g_o 3 r_o))]) (rest := []) h_o mX3_hasIfLetter kq_2_219 (c_X3_hasIfLetter hl0 hsp hlt hc_o (by omega)) q_o hsp.1 rfl rfl rfl (Nat.le_of_ble_eq_true rfl) ⟨rfl, rfl, ⟨(Nat.le_of_ble_eq_true rfl), (Nat.le_of_ble_eq_true rfl)⟩, ⟨(Nat.le_of_ble_eq_true rfl), (Nat.le_of_ble_eq_true rfl)⟩⟩ dX3_hasLettersOf_16 (kcI fun z16_o w16_o hp => ?_)
    obtain ⟨rfl, rfl⟩ := hp
    refine k_ifBeq h_o 37 dX3_hasLettersOf_19 (by decide) (fun h19_o => ?_) (fun h19_o => ?_)
    · refine k_iconst h_o dX3_hasLettersOf_37 ?_
      exact k_iret h_o hr rfl (⟨_, rfl, (bI_f (fun q_o => by first | exact h30_o q_o.2.2 | exact h19_o q_o.2.1 | exact h8_o q_o.1)), rfl⟩) (by omega) (by omega) dX3_hasLettersOf_38
    · refine k_aload_n h_o 0 dX3_hasLettersOf_22 rfl rfl ?_
      refine k_aload_n h_o 1 dX3_hasLettersOf_23 rfl rfl ?_
      refine k_get h_o (100 + r_o) kf_X3_54 hru rfl dX3_hasLettersOf_24 ?_
      refine k_callV (As := [.int (iI (g_o 4 r_o))]) (rest := []) h_o mX3_hasIfLetter kq_2_219 (c_X3_hasIfLetter hl0 hsp hlt hc_o (by omega)) q_o hsp.1 rfl rfl rfl (Nat.le_of_ble_eq_true rfl) ⟨rfl, rfl, ⟨(Nat.le_of_ble_eq_true rfl), (Nat.le_of_ble_eq_true rfl)⟩, ⟨(Nat.le_of_ble_eq_true rfl), (Nat.le_of_ble_eq_true rfl)⟩⟩ dX3_hasLettersOf_27 (kcI fun z27_o w27_o hp => ?_)
      obtain ⟨rfl, rfl⟩ := hp
      refine k_ifBeq h_o 37 dX3_hasLettersOf_30 (by decide) (fun h30_o => ?_) (fun h30_o => ?_)
      · refine k_iconst h_o dX3_hasLettersOf_37 ?_
        exact k_iret h_o hr rfl (⟨_, rfl, (bI_f (fun q_o => by first | exact h30_o q_o.2.2 | exact h19_o q_o.2.1 | exact h8_o q_o.1)), rfl⟩) (by omega) (by omega) dX3_hasLettersOf_38
      · refine k_iconst h_o dX3_hasLettersOf_33 ?_
        refine k_goto h_o 38 dX3_hasLettersOf_34 (by decide) ?_
        exact k_iret h_o hr rfl (⟨_, rfl, (bI_t ⟨h8_o, h19_o, h30_o⟩), rfl⟩) (by omega) (by omega) dX3_hasLettersOf_38

set_option maxHeartbeats 4000000 in
set_option maxRecDepth 100000 in
theorem c_X0_hasRoom {E_o : kE} {l_o : Launch} (hl0 : l_o.stackTraces = false) {w_o : kW} {ag ap nr : Nat} {ra : Nat → Nat} {g_o : Nat → Nat → Int} (hgr : kGr w_o ag ap nr ra g_o) : kM E_o l_o yX0_hasRoom (.code yX0_hasRoom cX0_hasRoom 1 (some .boolean) :: kAL) { frames := 0, cells := 0, slots := 0, locals := 0 } 0 0 [.ref ag] w_o (pI (fun z_o w2_o => bI ((nr : Int) < 12) = z_o ∧ w_o = w2_o)) := by
  refine kM_of hl0 (by decide +kernel) (Nat.le_of_ble_eq_true rfl) ?_
  intro X_o hXl h_o hr hin
  subst hXl
  have hnr := hgr.2.2.2
  show kG E_o X_o 1 0 0 w_o 0 [(0, .ref ag)] []
  refine k_aload_n h_o 0 dX0_hasRoom_0 rfl rfl ?_
  refine k_get h_o 1 kf_X0_17 hgr.1 rfl dX0_hasRoom_1 ?_
  refine k_aload_n h_o 0 dX0_hasRoom_4 rfl rfl ?_
  refine k_get h_o 1 kf_X0_11 hgr.1 rfl dX0_hasRoom_5 ?_
  refine k_alen h_o 2 hgr.2.1 rfl dX0_hasRoom_8 ?_
  show kG E_o X_o 1 _ _ _ _ _ (.int (iI 12) :: _)
  refine k_icmp_ge h_o 16 (by omega) (by decide) dX0_hasRoom_9 (by decide) (fun h9_o => ?_) (fun h9_o => ?_)
  · refine k_iconst h_o dX0_hasRoom_16 ?_
    exact k_iret h_o hr rfl (⟨_, rfl, (bI_f (by omega)), rfl⟩) (by omega) (by omega) dX0_hasRoom_17
  · refine k_iconst h_o dX0_hasRoom_12 ?_
    refine k_goto h_o 17 dX0_hasRoom_13 (by decide) ?_
    exact k_iret h_o hr rfl (⟨_, rfl, (bI_t (by omega)), rfl⟩) (by omega) (by omega) dX0_hasRoom_17

set_option maxHeartbeats 4000000 in
set_option maxRecDepth 100000 in
theorem c_X0_put {E_o : kE} {l_o : Launch} (hl0 : l_o.stackTraces = false) {w_o : kW} {ag ap nr : Nat} {ra : Nat → Nat} {g_o : Nat → Nat → Int} {b_o : Nat} {fs : List Value} (hgr : kGr w_o ag ap nr ra g_o) (hn : nr < 12) (hb : w_o (100 + nr) = some (b_o, .inr (4, fs))) : kM E_o l_o yX0_put (.code yX0_put cX0_put 2 none :: kAL) { frames := 0, cells := 0, slots := 0, locals := 0 } 0 0 [.ref ag, .ref b_o] w_o (pV (fun w2_o => kset (kset w_o 2 ap (aq 5 12 (kPl (kup ra nr b_o) (nr + 1)))) 1 ag (ob 2 [.ref ap, .int (iI (((nr + 1 : Nat)) : Int))]) = w2_o)) := by
  refine kM_of hl0 (by decide +kernel) (Nat.le_of_ble_eq_true rfl) ?_
  intro X_o hXl h_o hr hin
  subst hXl
  show kG E_o X_o 2 0 0 w_o 0 [(0, .ref ag), (1, .ref b_o)] []
  refine k_aload_n h_o 0 dX0_put_0 rfl rfl ?_
  refine k_get h_o 1 kf_X0_17 hgr.1 rfl dX0_put_1 ?_
  refine k_iflt h_o 39 (by omega) dX0_put_4 (by decide) (fun h4_o => ?_) (fun h4_o => ?_)
  · exfalso; omega
  · refine k_aload_n h_o 0 dX0_put_7 rfl rfl ?_
    refine k_get h_o 1 kf_X0_17 hgr.1 rfl dX0_put_8 ?_
    refine k_aload_n h_o 0 dX0_put_11 rfl rfl ?_
    refine k_get h_o 1 kf_X0_11 hgr.1 rfl dX0_put_12 ?_
    refine k_alen h_o 2 hgr.2.1 rfl dX0_put_15 ?_
    show kG E_o X_o 2 _ _ _ _ _ (.int (iI 12) :: _)
    refine k_icmp_ge h_o 39 (by omega) (by decide) dX0_put_16 (by decide) (fun h16_o => ?_) (fun h16_o => ?_)
    · exfalso; omega
    · refine k_aload_n h_o 0 dX0_put_19 rfl rfl ?_
      refine k_get h_o 1 kf_X0_11 hgr.1 rfl dX0_put_20 ?_
      refine k_aload_n h_o 0 dX0_put_23 rfl rfl ?_
      refine k_get h_o 1 kf_X0_17 hgr.1 rfl dX0_put_24 ?_
      refine k_aload_n h_o 1 dX0_put_27 rfl rfl ?_
      refine k_aast h_o 2 (100 + nr) hgr.2.1 rfl hb rfl (by omega) (by decide) dX0_put_28 ?_
      refine k_aload_n h_o 0 dX0_put_29 rfl rfl ?_
      refine k_dup h_o dX0_put_30 rfl ?_
      refine k_get h_o 1 kf_X0_17 ((kset_ne (by decide)).trans hgr.1) rfl dX0_put_31 ?_
      refine k_iconst h_o dX0_put_34 ?_
      refine k_iadd h_o dX0_put_35 ?_
      refine k_put (fs' := [.ref ap, .int (iI ((nr : Int) + 1))]) h_o 1 kf_X0_17 kt_X0_1 ((kset_ne (by decide)).trans hgr.1) rfl rfl (Nat.le_of_ble_eq_true rfl) rfl dX0_put_36 ?_
      exact k_vret h_o hr (⟨rfl, (by rw [show ((nr : Int)).toNat = nr by omega, kPl_up]; rfl)⟩) (by omega) (by omega) dX0_put_39

set_option maxHeartbeats 4000000 in
set_option maxRecDepth 100000 in
theorem c_X0_countLive {E_o : kE} {l_o : Launch} (hl0 : l_o.stackTraces = false) {w_o : kW} {ag ap nr : Nat} {ra : Nat → Nat} {g_o : Nat → Nat → Int} (hgr : kGr w_o ag ap nr ra g_o) (hwf : kWf g_o nr) : kM E_o l_o yX0_countLive (.code yX0_countLive cX0_countLive 3 (some .int) :: kAL) { frames := 1, cells := 0, slots := 0, locals := 22 } 0 0 [.ref ag] w_o (pI (fun z_o w2_o => m_cl g_o nr = z_o ∧ w_o = w2_o)) := by
  refine kM_of hl0 (by decide +kernel) (Nat.le_of_ble_eq_true rfl) ?_
  intro X_o hXl h_o hr hin
  subst hXl
  have hnr := hgr.2.2.2
  show kG E_o X_o 3 0 0 w_o 0 [(0, .ref ag)] []
  refine k_iconst h_o dX0_countLive_0 ?_
  refine k_istore_n (lv' := [(1, .int (iI 0)), (0, .ref ag)]) h_o dX0_countLive_1 rfl (by decide) rfl ?_
  refine k_iconst h_o dX0_countLive_2 ?_
  refine k_istore_n (lv' := [(2, .int (iI 0)), (1, .int (iI 0)), (0, .ref ag)]) h_o dX0_countLive_3 rfl (by decide) rfl ?_
  have L4 : ∀ (mm : Nat) (r_o : Int), (0 ≤ r_o ∧ r_o ≤ (nr : Int)) → (nr : Int) - r_o < (mm : Int) → kG E_o X_o 3 0 0 w_o 4 [(0, .ref ag), (1, .int (iI (m_cl g_o r_o.toNat))), (2, .int (iI r_o))] [] := by
    intro mm
    induction mm with
    | zero =>
      intro r_o hr2 hm_o
      exfalso; omega
    | succ mm ih4 =>
      intro r_o hr2 hm_o
      refine k_iload_n h_o 2 dX0_countLive_4 rfl rfl ?_
      refine k_aload_n h_o 0 dX0_countLive_5 rfl rfl ?_
      refine k_get h_o 1 kf_X0_17 hgr.1 rfl dX0_countLive_6 ?_
      refine k_icmp_ge h_o 29 (by omega) (by omega) dX0_countLive_9 (by decide) (fun h9_o => ?_) (fun h9_o => ?_)
      · refine k_iload_n h_o 1 dX0_countLive_29 rfl rfl ?_
        exact k_iret h_o hr rfl (⟨_, rfl, (by rw [show r_o.toNat = nr by omega]), rfl⟩) (by omega) (by omega) dX0_countLive_30
      · refine k_aload_n h_o 0 dX0_countLive_12 rfl rfl ?_
        refine k_iload_n h_o 2 dX0_countLive_13 rfl rfl ?_
        refine k_callV (As := [.int (iI r_o)]) (rest := []) h_o mX0_liveRule kq_1_157 (c_X0_liveRule hl0 hgr hwf (by omega)) 1 hgr.1 rfl rfl rfl (Nat.le_of_ble_eq_true rfl) ⟨rfl, rfl, ⟨(Nat.le_of_ble_eq_true rfl), (Nat.le_of_ble_eq_true rfl)⟩, ⟨(Nat.le_of_ble_eq_true rfl), (Nat.le_of_ble_eq_true rfl)⟩⟩ dX0_countLive_14 (kcQ fun z14_o w14_o hp => ?_)
        obtain ⟨hp, rfl⟩ := hp
        rcases hp with ⟨hlv, ho⟩ | ⟨hlv, ho⟩
        · refine k_topQ ho ?_
          refine k_ifnull h_o dX0_countLive_17 ?_
          refine k_iinc (lv' := [(1, .int (iI (m_cl g_o r_o.toNat + 1))), (0, .ref ag), (2, .int (iI r_o))]) h_o 1 dX0_countLive_20 rfl (by decide) rfl ?_
          refine k_iinc (lv' := [(2, .int (iI (r_o + 1))), (1, .int (iI (m_cl g_o r_o.toNat + 1))), (0, .ref ag)]) h_o 2 dX0_countLive_23 rfl (by decide) rfl ?_
          refine k_goto h_o 4 dX0_countLive_26 (by decide) ?_
          refine k_sub (lv' := [(0, .ref ag), (1, .int (iI (m_cl g_o r_o.toNat + 1))), (2, .int (iI (r_o + 1)))]) [2, 1, 0] rfl ?_
          rw [show m_cl g_o r_o.toNat + 1 = m_cl g_o (r_o + 1).toNat by rw [show (r_o + 1).toNat = r_o.toNat + 1 by omega]; show _ = m_cl g_o r_o.toNat + _; first | (rw [if_pos hlv.2.2]) | (rw [if_neg (fun q_o => hlv ⟨by omega, by omega, q_o⟩)]; omega)]
          exact ih4 (r_o + 1) (by omega) (by omega)
        · refine k_topN ho ?_
          refine k_ifnullN h_o 23 dX0_countLive_17 (by decide) ?_
          refine k_iinc (lv' := [(2, .int (iI (r_o + 1))), (0, .ref ag), (1, .int (iI (m_cl g_o r_o.toNat)))]) h_o 2 dX0_countLive_23 rfl (by decide) rfl ?_
          refine k_goto h_o 4 dX0_countLive_26 (by decide) ?_
          refine k_sub (lv' := [(0, .ref ag), (1, .int (iI (m_cl g_o r_o.toNat))), (2, .int (iI (r_o + 1)))]) [1, 2, 0] rfl ?_
          rw [show m_cl g_o r_o.toNat = m_cl g_o (r_o + 1).toNat by rw [show (r_o + 1).toNat = r_o.toNat + 1 by omega]; show _ = m_cl g_o r_o.toNat + _; first | (rw [if_pos hlv.2.2]) | (rw [if_neg (fun q_o => hlv ⟨by omega, by omega, q_o⟩)]; omega)]
          exact ih4 (r_o + 1) (by omega) (by omega)
  refine k_sub (lv' := [(0, .ref ag), (1, .int (iI 0)), (2, .int (iI 0))]) [2, 1, 0] rfl ?_
  exact L4 (((nr : Int) - 0 : Int).toNat + 1) 0 (by omega) (by omega)

set_option maxHeartbeats 4000000 in
set_option maxRecDepth 100000 in
theorem c_X0_chosenRule {E_o : kE} {l_o : Launch} (hl0 : l_o.stackTraces = false) {w_o : kW} {q_o a_o la na : Nat} {lt_o : Nat → Int} {N_o : Nat → Nat} {c_o : Int} {ag ap nr : Nat} {ra : Nat → Nat} {g_o : Nat → Nat → Int} {x_o i_o j_o : Int} (hsp : kSp w_o q_o a_o la na lt_o N_o c_o) (hlt : kLt lt_o) (hN_o : ∀ x_o, N_o x_o ≤ 1000) (hgr : kGr w_o ag ap nr ra g_o) (hwf : kWf g_o nr) (hx : m_isN x_o) (hi_o : 0 ≤ i_o ∧ i_o ≤ j_o) (hj : j_o < 10) : kM E_o l_o yX0_chosenRule (.code yX0_chosenRule cX0_chosenRule 9 (some (.object "Parserpark$Rule")) :: kAL) { frames := 2, cells := 0, slots := 0, locals := 49 } 0 0 [.ref ag, .ref a_o, .int (iI x_o), .int (iI i_o), .int (iI j_o)] w_o (pQ (fun o_o w2_o => m_co ra (m_ch g_o (m_Cn N_o) lt_o x_o i_o j_o nr) = o_o ∧ w_o = w2_o)) := by
  refine kM_of hl0 (by decide +kernel) (Nat.le_of_ble_eq_true rfl) ?_
  intro X_o hXl h_o hr hin
  subst hXl
  have hnr := hgr.2.2.2
  show kG E_o X_o 9 0 0 w_o 0 [(0, .ref ag), (1, .ref a_o), (2, .int (iI x_o)), (3, .int (iI i_o)), (4, .int (iI j_o))] []
  refine k_null h_o dX0_chosenRule_0 ?_
  refine k_astoreN (lv' := [(5, .null), (0, .ref ag), (1, .ref a_o), (2, .int (iI x_o)), (3, .int (iI i_o)), (4, .int (iI j_o))]) h_o dX0_chosenRule_1 (by decide) rfl ?_
  refine k_iconst h_o dX0_chosenRule_3 ?_
  refine k_istore (lv' := [(6, .int (iI 0)), (5, .null), (0, .ref ag), (1, .ref a_o), (2, .int (iI x_o)), (3, .int (iI i_o)), (4, .int (iI j_o))]) h_o dX0_chosenRule_4 (by decide) rfl ?_
  have L6 : ∀ (mm : Nat) (r_o : Int), (0 ≤ r_o ∧ r_o ≤ (nr : Int)) → (nr : Int) - r_o < (mm : Int) → kG E_o X_o 9 0 0 w_o 6 [(0, .ref ag), (1, .ref a_o), (2, .int (iI x_o)), (3, .int (iI i_o)), (4, .int (iI j_o)), (5, va_rf (m_co ra (m_ch g_o (m_Cn N_o) lt_o x_o i_o j_o r_o.toNat))), (6, .int (iI r_o))] [] := by
    intro mm
    induction mm with
    | zero =>
      intro r_o hr2 hm_o
      exfalso; omega
    | succ mm ih6 =>
      intro r_o hr2 hm_o
      refine k_iload h_o 6 dX0_chosenRule_6 rfl ?_
      refine k_aload_n h_o 0 dX0_chosenRule_8 rfl rfl ?_
      refine k_get h_o 1 kf_X0_17 hgr.1 rfl dX0_chosenRule_9 ?_
      refine k_icmp_ge h_o 93 (by omega) (by omega) dX0_chosenRule_12 (by decide) (fun h12_o => ?_) (fun h12_o => ?_)
      · have hbr2 := m_ch_rg (g := g_o) (C := m_Cn N_o) (lt := lt_o) (nm := x_o) (i := i_o) (j := j_o) r_o.toNat
        by_cases hbn : (m_ch g_o (m_Cn N_o) lt_o x_o i_o j_o r_o.toNat) = -1
        · rw [show m_co ra (m_ch g_o (m_Cn N_o) lt_o x_o i_o j_o r_o.toNat) = none by unfold m_co; rw [if_pos hbn]]
          show kG E_o X_o 9 _ _ _ _ [(0, .ref ag), (1, .ref a_o), (2, .int (iI x_o)), (3, .int (iI i_o)), (4, .int (iI j_o)), (5, .null), (6, .int (iI r_o))] _
          refine k_aloadN h_o 5 dX0_chosenRule_93 rfl ?_
          exact k_aretN h_o hr (⟨none, rfl, (by rw [show nr = r_o.toNat by omega]; unfold m_co; rw [if_pos hbn]), rfl⟩) (by omega) (by omega) dX0_chosenRule_95
        · rw [show m_co ra (m_ch g_o (m_Cn N_o) lt_o x_o i_o j_o r_o.toNat) = some (ra (m_ch g_o (m_Cn N_o) lt_o x_o i_o j_o r_o.toNat).toNat) by unfold m_co; rw [if_neg hbn]]
          show kG E_o X_o 9 _ _ _ _ [(0, .ref ag), (1, .ref a_o), (2, .int (iI x_o)), (3, .int (iI i_o)), (4, .int (iI j_o)), (5, .ref (ra (m_ch g_o (m_Cn N_o) lt_o x_o i_o j_o r_o.toNat).toNat)), (6, .int (iI r_o))] _
          refine k_aload h_o 5 dX0_chosenRule_93 rfl ?_
          exact k_aret h_o hr (⟨some _, rfl, (by rw [show nr = r_o.toNat by omega]; unfold m_co; rw [if_neg hbn]), rfl⟩) (by omega) (by omega) dX0_chosenRule_95
      · have hbr := m_ch_rg (g := g_o) (C := m_Cn N_o) (lt := lt_o) (nm := x_o) (i := i_o) (j := j_o) r_o.toNat
        have hstay : (¬ m_live g_o nr r_o ∨ g_o 1 r_o.toNat ≠ x_o ∨ ¬ (m_okr g_o (m_Cn N_o) lt_o x_o i_o j_o r_o.toNat ∧ ((m_ch g_o (m_Cn N_o) lt_o x_o i_o j_o r_o.toNat) = -1 ∨ g_o 5 (m_ch g_o (m_Cn N_o) lt_o x_o i_o j_o r_o.toNat).toNat < g_o 5 r_o.toNat))) → m_ch g_o (m_Cn N_o) lt_o x_o i_o j_o (r_o + 1).toNat = (m_ch g_o (m_Cn N_o) lt_o x_o i_o j_o r_o.toNat) := by
          intro hz
          rw [show (r_o + 1).toNat = r_o.toNat + 1 by omega]
          refine m_ch_f (fun q_o => ?_)
          rcases hz with hz | hz | hz
          · exact hz ⟨by omega, by omega, q_o.1.1⟩
          · exact hz q_o.1.2.1
          · exact hz q_o
        by_cases hbn : (m_ch g_o (m_Cn N_o) lt_o x_o i_o j_o r_o.toNat) = -1
        · rw [show m_co ra (m_ch g_o (m_Cn N_o) lt_o x_o i_o j_o r_o.toNat) = none by unfold m_co; rw [if_pos hbn]]
          show kG E_o X_o 9 _ _ _ _ [(0, .ref ag), (1, .ref a_o), (2, .int (iI x_o)), (3, .int (iI i_o)), (4, .int (iI j_o)), (5, .null), (6, .int (iI r_o))] _
          refine k_aload_n h_o 0 dX0_chosenRule_15 rfl rfl ?_
          refine k_iload h_o 6 dX0_chosenRule_16 rfl ?_
          refine k_callV (As := [.int (iI r_o)]) (rest := []) h_o mX0_liveRule kq_1_157 (c_X0_liveRule hl0 hgr hwf (by omega)) 1 hgr.1 rfl rfl rfl (Nat.le_of_ble_eq_true rfl) ⟨rfl, rfl, ⟨(Nat.le_of_ble_eq_true rfl), (Nat.le_of_ble_eq_true rfl)⟩, ⟨(Nat.le_of_ble_eq_true rfl), (Nat.le_of_ble_eq_true rfl)⟩⟩ dX0_chosenRule_18 (kcQ fun z18_o w18_o hp => ?_)
          obtain ⟨hp, rfl⟩ := hp
          rcases hp with ⟨hlv, ho⟩ | ⟨hlv, ho⟩
          · refine k_topQ ho ?_
            have hrw := (hwf r_o.toNat (by have := hlv.2.1; omega))
            have hrg1 := hrw.1.1
            have hrg5 := hrw.2.1
            refine k_astore (lv' := [(7, .ref (ra r_o.toNat)), (0, .ref ag), (1, .ref a_o), (2, .int (iI x_o)), (3, .int (iI i_o)), (4, .int (iI j_o)), (5, .null), (6, .int (iI r_o))]) h_o dX0_chosenRule_21 (by decide) rfl ?_
            refine k_aload h_o 0 dX0_chosenRule_23 rfl ?_
            refine k_ifnull h_o dX0_chosenRule_25 ?_
            refine k_aload h_o 0 dX0_chosenRule_28 rfl ?_
            refine k_get h_o (100 + r_o.toNat) kf_X0_29 (hgr.2.2.1 r_o.toNat (by have := hlv.1; have := hlv.2.1; omega)) rfl dX0_chosenRule_30 ?_
            refine k_iload_n h_o 3 dX0_chosenRule_33 rfl rfl ?_
            refine k_icmp_eq h_o 40 (by omega) (by omega) dX0_chosenRule_34 (by decide) (fun h34_o => ?_) (fun h34_o => ?_)
            · refine k_aloadN h_o 6 dX0_chosenRule_40 rfl ?_
              refine k_ifnullN h_o 58 dX0_chosenRule_42 (by decide) ?_
              refine k_iconst h_o dX0_chosenRule_58 ?_
              refine k_goto h_o 63 dX0_chosenRule_59 (by decide) ?_
              have hah : (m_ch g_o (m_Cn N_o) lt_o x_o i_o j_o r_o.toNat) = -1 ∨ g_o 5 (m_ch g_o (m_Cn N_o) lt_o x_o i_o j_o r_o.toNat).toNat < g_o 5 r_o.toNat := by first | exact Or.inl hbn | exact Or.inr (by omega)
              refine k_istore (lv' := [(8, .int (iI 1)), (7, .ref (ra r_o.toNat)), (0, .ref ag), (1, .ref a_o), (2, .int (iI x_o)), (3, .int (iI i_o)), (4, .int (iI j_o)), (5, .null), (6, .int (iI r_o))]) h_o dX0_chosenRule_63 (by decide) rfl ?_
              refine k_iload h_o 0 dX0_chosenRule_65 rfl ?_
              refine k_ifeq h_o 87 (by decide) dX0_chosenRule_67 (by decide) (fun h67_o => ?_) (fun h67_o => ?_)
              · exfalso; omega
              · refine k_aload_n h_o 3 dX0_chosenRule_70 rfl rfl ?_
                refine k_aload h_o 1 dX0_chosenRule_71 rfl ?_
                refine k_iload_n h_o 5 dX0_chosenRule_73 rfl rfl ?_
                refine k_iload h_o 6 dX0_chosenRule_74 rfl ?_
                refine k_callV (As := [.ref (ra r_o.toNat), .int (iI i_o), .int (iI j_o)]) (rest := []) h_o mX3_splitOf kq_2_28 (c_X3_splitOf hl0 hsp hlt hN_o (hgr.2.2.1 r_o.toNat (by omega)) hrw.1 hi_o hj) q_o hsp.1 rfl rfl rfl (Nat.le_of_ble_eq_true rfl) ⟨rfl, rfl, ⟨(Nat.le_of_ble_eq_true rfl), (Nat.le_of_ble_eq_true rfl)⟩, ⟨(Nat.le_of_ble_eq_true rfl), (Nat.le_of_ble_eq_true rfl)⟩⟩ dX0_chosenRule_76 (kcI fun z76_o w76_o hp => ?_)
                obtain ⟨rfl, rfl⟩ := hp
                by_cases hwy : 0 < m_wy (m_Cn N_o) lt_o (g_o 2 r_o.toNat) (g_o 3 r_o.toNat) (g_o 4 r_o.toNat) i_o j_o
                · refine k_top (z' := (m_sk (m_Cn N_o) lt_o (g_o 2 r_o.toNat) (g_o 3 r_o.toNat) (g_o 4 r_o.toNat) i_o j_o) * 10 + (m_sl (m_Cn N_o) lt_o (g_o 2 r_o.toNat) (g_o 3 r_o.toNat) (g_o 4 r_o.toNat) i_o j_o)) (if_pos hwy) ?_
                  have hsps := m_split hi_o.2 hwy
                  refine k_iconst h_o dX0_chosenRule_79 ?_
                  refine k_icmp_eq h_o 87 (by omega) (by decide) dX0_chosenRule_80 (by decide) (fun h80_o => ?_) (fun h80_o => ?_)
                  · exfalso; omega
                  · have hokr : m_okr g_o (m_Cn N_o) lt_o x_o i_o j_o r_o.toNat := ⟨hlv.2.2, by omega, hwy⟩
                    refine k_aload h_o 1 dX0_chosenRule_83 rfl ?_
                    refine k_astore (lv' := [(5, .ref (ra r_o.toNat)), (8, .int (iI 1)), (7, .ref (ra r_o.toNat)), (0, .ref ag), (1, .ref a_o), (2, .int (iI x_o)), (3, .int (iI i_o)), (4, .int (iI j_o)), (6, .int (iI r_o))]) h_o dX0_chosenRule_85 (by decide) rfl ?_
                    refine k_iinc (lv' := [(6, .int (iI (r_o + 1))), (5, .ref (ra r_o.toNat)), (8, .int (iI 1)), (7, .ref (ra r_o.toNat)), (0, .ref ag), (1, .ref a_o), (2, .int (iI x_o)), (3, .int (iI i_o)), (4, .int (iI j_o))]) h_o 8 dX0_chosenRule_87 rfl (by decide) rfl ?_
                    refine k_goto h_o 6 dX0_chosenRule_90 (by decide) ?_
                    refine k_sub (lv' := [(0, .ref ag), (1, .ref a_o), (2, .int (iI x_o)), (3, .int (iI i_o)), (4, .int (iI j_o)), (5, .ref (ra r_o.toNat)), (6, .int (iI (r_o + 1)))]) [4, 5, 6, 7, 8, 1, 0] rfl ?_
                    rw [show Value.ref (ra r_o.toNat) = va_rf (m_co ra (m_ch g_o (m_Cn N_o) lt_o x_o i_o j_o (r_o + 1).toNat)) by rw [show (r_o + 1).toNat = r_o.toNat + 1 by omega, m_ch_t hokr hah]; unfold m_co; rw [if_neg (by omega)]; rw [show ((r_o.toNat : Int)).toNat = r_o.toNat by omega]; rfl]
                    exact ih6 (r_o + 1) (by omega) (by omega)
                · refine k_top (z' := -1) (if_neg hwy) ?_
                  refine k_iconst h_o dX0_chosenRule_79 ?_
                  refine k_icmp_eq h_o 87 (by decide) (by decide) dX0_chosenRule_80 (by decide) (fun h80_o => ?_) (fun h80_o => ?_)
                  · have hno : ¬ (m_okr g_o (m_Cn N_o) lt_o x_o i_o j_o r_o.toNat ∧ ((m_ch g_o (m_Cn N_o) lt_o x_o i_o j_o r_o.toNat) = -1 ∨ g_o 5 (m_ch g_o (m_Cn N_o) lt_o x_o i_o j_o r_o.toNat).toNat < g_o 5 r_o.toNat)) := fun q_o => hwy q_o.1.2.2
                    refine k_iinc (lv' := [(6, .int (iI (r_o + 1))), (8, .int (iI 1)), (7, .ref (ra r_o.toNat)), (0, .ref ag), (1, .ref a_o), (2, .int (iI x_o)), (3, .int (iI i_o)), (4, .int (iI j_o)), (5, .null)]) h_o 8 dX0_chosenRule_87 rfl (by decide) rfl ?_
                    refine k_goto h_o 6 dX0_chosenRule_90 (by decide) ?_
                    refine k_sub (lv' := [(0, .ref ag), (1, .ref a_o), (2, .int (iI x_o)), (3, .int (iI i_o)), (4, .int (iI j_o)), (5, .null), (6, .int (iI (r_o + 1)))]) [3, 4, 5, 6, 7, 8, 0] rfl ?_
                    rw [show Value.null = va_rf (m_co ra (m_ch g_o (m_Cn N_o) lt_o x_o i_o j_o (r_o + 1).toNat)) by rw [hstay (by first | exact Or.inl hlv | exact Or.inr (Or.inl (by omega)) | exact Or.inr (Or.inr hno)), hbn]; rfl]
                    exact ih6 (r_o + 1) (by omega) (by omega)
                  · exfalso; omega
            · refine k_goto h_o 87 dX0_chosenRule_37 (by decide) ?_
              refine k_iinc (lv' := [(6, .int (iI (r_o + 1))), (7, .ref (ra r_o.toNat)), (0, .ref ag), (1, .ref a_o), (2, .int (iI x_o)), (3, .int (iI i_o)), (4, .int (iI j_o)), (5, .null)]) h_o 7 dX0_chosenRule_87 rfl (by decide) rfl ?_
              refine k_goto h_o 6 dX0_chosenRule_90 (by decide) ?_
              refine k_sub (lv' := [(0, .ref ag), (1, .ref a_o), (2, .int (iI x_o)), (3, .int (iI i_o)), (4, .int (iI j_o)), (5, .null), (6, .int (iI (r_o + 1)))]) [2, 3, 4, 5, 6, 7, 0] rfl ?_
              rw [show Value.null = va_rf (m_co ra (m_ch g_o (m_Cn N_o) lt_o x_o i_o j_o (r_o + 1).toNat)) by rw [hstay (by first | exact Or.inl hlv | exact Or.inr (Or.inl (by omega)) | exact Or.inr (Or.inr hno)), hbn]; rfl]
              exact ih6 (r_o + 1) (by omega) (by omega)
          · refine k_topN ho ?_
            refine k_astoreN (lv' := [(7, .null), (0, .ref ag), (1, .ref a_o), (2, .int (iI x_o)), (3, .int (iI i_o)), (4, .int (iI j_o)), (5, .null), (6, .int (iI r_o))]) h_o dX0_chosenRule_21 (by decide) rfl ?_
            refine k_aloadN h_o 0 dX0_chosenRule_23 rfl ?_
            refine k_ifnullN h_o 87 dX0_chosenRule_25 (by decide) ?_
            refine k_iinc (lv' := [(6, .int (iI (r_o + 1))), (7, .null), (0, .ref ag), (1, .ref a_o), (2, .int (iI x_o)), (3, .int (iI i_o)), (4, .int (iI j_o)), (5, .null)]) h_o 7 dX0_chosenRule_87 rfl (by decide) rfl ?_
            refine k_goto h_o 6 dX0_chosenRule_90 (by decide) ?_
            refine k_sub (lv' := [(0, .ref ag), (1, .ref a_o), (2, .int (iI x_o)), (3, .int (iI i_o)), (4, .int (iI j_o)), (5, .null), (6, .int (iI (r_o + 1)))]) [2, 3, 4, 5, 6, 7, 0] rfl ?_
            rw [show Value.null = va_rf (m_co ra (m_ch g_o (m_Cn N_o) lt_o x_o i_o j_o (r_o + 1).toNat)) by rw [hstay (by first | exact Or.inl hlv | exact Or.inr (Or.inl (by omega)) | exact Or.inr (Or.inr hno)), hbn]; rfl]
            exact ih6 (r_o + 1) (by omega) (by omega)
        · rw [show m_co ra (m_ch g_o (m_Cn N_o) lt_o x_o i_o j_o r_o.toNat) = some (ra (m_ch g_o (m_Cn N_o) lt_o x_o i_o j_o r_o.toNat).toNat) by unfold m_co; rw [if_neg hbn]]
          show kG E_o X_o 9 _ _ _ _ [(0, .ref ag), (1, .ref a_o), (2, .int (iI x_o)), (3, .int (iI i_o)), (4, .int (iI j_o)), (5, .ref (ra (m_ch g_o (m_Cn N_o) lt_o x_o i_o j_o r_o.toNat).toNat)), (6, .int (iI r_o))] _
          have hb3 := hbr.resolve_left hbn
          have hrgb := (hwf (m_ch g_o (m_Cn N_o) lt_o x_o i_o j_o r_o.toNat).toNat (by omega)).2.1
          refine k_aload_n h_o 0 dX0_chosenRule_15 rfl rfl ?_
          refine k_iload h_o 6 dX0_chosenRule_16 rfl ?_
          refine k_callV (As := [.int (iI r_o)]) (rest := []) h_o mX0_liveRule kq_1_157 (c_X0_liveRule hl0 hgr hwf (by omega)) 1 hgr.1 rfl rfl rfl (Nat.le_of_ble_eq_true rfl) ⟨rfl, rfl, ⟨(Nat.le_of_ble_eq_true rfl), (Nat.le_of_ble_eq_true rfl)⟩, ⟨(Nat.le_of_ble_eq_true rfl), (Nat.le_of_ble_eq_true rfl)⟩⟩ dX0_chosenRule_18 (kcQ fun z18_o w18_o hp => ?_)
          obtain ⟨hp, rfl⟩ := hp
          rcases hp with ⟨hlv, ho⟩ | ⟨hlv, ho⟩
          · refine k_topQ ho ?_
            have hrw := (hwf r_o.toNat (by have := hlv.2.1; omega))
            have hrg1 := hrw.1.1
            have hrg5 := hrw.2.1
            refine k_astore (lv' := [(7, .ref (ra r_o.toNat)), (0, .ref ag), (1, .ref a_o), (2, .int (iI x_o)), (3, .int (iI i_o)), (4, .int (iI j_o)), (5, .ref (ra (m_ch g_o (m_Cn N_o) lt_o x_o i_o j_o r_o.toNat).toNat)), (6, .int (iI r_o))]) h_o dX0_chosenRule_21 (by decide) rfl ?_
            refine k_aload h_o 0 dX0_chosenRule_23 rfl ?_
            refine k_ifnull h_o dX0_chosenRule_25 ?_
            refine k_aload h_o 0 dX0_chosenRule_28 rfl ?_
            refine k_get h_o (100 + r_o.toNat) kf_X0_29 (hgr.2.2.1 r_o.toNat (by have := hlv.1; have := hlv.2.1; omega)) rfl dX0_chosenRule_30 ?_
            refine k_iload_n h_o 3 dX0_chosenRule_33 rfl rfl ?_
            refine k_icmp_eq h_o 40 (by omega) (by omega) dX0_chosenRule_34 (by decide) (fun h34_o => ?_) (fun h34_o => ?_)
            · refine k_aload h_o 6 dX0_chosenRule_40 rfl ?_
              refine k_ifnull h_o dX0_chosenRule_42 ?_
              refine k_aload h_o 0 dX0_chosenRule_45 rfl ?_
              refine k_get h_o (100 + r_o.toNat) kf_X0_32 (hgr.2.2.1 r_o.toNat (by have := hlv.1; have := hlv.2.1; omega)) rfl dX0_chosenRule_47 ?_
              refine k_aload h_o 6 dX0_chosenRule_50 rfl ?_
              refine k_get h_o (100 + ((m_ch g_o (m_Cn N_o) lt_o x_o i_o j_o r_o.toNat).toNat)) kf_X0_32 (hgr.2.2.1 (m_ch g_o (m_Cn N_o) lt_o x_o i_o j_o r_o.toNat).toNat (by omega)) rfl dX0_chosenRule_52 ?_
              refine k_icmp_le h_o 62 (by omega) (by omega) dX0_chosenRule_55 (by decide) (fun h55_o => ?_) (fun h55_o => ?_)
              · refine k_iconst h_o dX0_chosenRule_62 ?_
                have hno : ¬ (m_okr g_o (m_Cn N_o) lt_o x_o i_o j_o r_o.toNat ∧ ((m_ch g_o (m_Cn N_o) lt_o x_o i_o j_o r_o.toNat) = -1 ∨ g_o 5 (m_ch g_o (m_Cn N_o) lt_o x_o i_o j_o r_o.toNat).toNat < g_o 5 r_o.toNat)) := fun q_o => by rcases q_o.2 with q_o | q_o; exact hbn q_o; omega
                refine k_istore (lv' := [(8, .int (iI 0)), (7, .ref (ra r_o.toNat)), (0, .ref ag), (1, .ref a_o), (2, .int (iI x_o)), (3, .int (iI i_o)), (4, .int (iI j_o)), (5, .ref (ra (m_ch g_o (m_Cn N_o) lt_o x_o i_o j_o r_o.toNat).toNat)), (6, .int (iI r_o))]) h_o dX0_chosenRule_63 (by decide) rfl ?_
                refine k_iload h_o 0 dX0_chosenRule_65 rfl ?_
                refine k_ifeq h_o 87 (by decide) dX0_chosenRule_67 (by decide) (fun h67_o => ?_) (fun h67_o => ?_)
                · refine k_iinc (lv' := [(6, .int (iI (r_o + 1))), (8, .int (iI 0)), (7, .ref (ra r_o.toNat)), (0, .ref ag), (1, .ref a_o), (2, .int (iI x_o)), (3, .int (iI i_o)), (4, .int (iI j_o)), (5, .ref (ra (m_ch g_o (m_Cn N_o) lt_o x_o i_o j_o r_o.toNat).toNat))]) h_o 8 dX0_chosenRule_87 rfl (by decide) rfl ?_
                  refine k_goto h_o 6 dX0_chosenRule_90 (by decide) ?_
                  refine k_sub (lv' := [(0, .ref ag), (1, .ref a_o), (2, .int (iI x_o)), (3, .int (iI i_o)), (4, .int (iI j_o)), (5, .ref (ra (m_ch g_o (m_Cn N_o) lt_o x_o i_o j_o r_o.toNat).toNat)), (6, .int (iI (r_o + 1)))]) [3, 4, 5, 6, 7, 8, 0] rfl ?_
                  rw [show Value.ref (ra (m_ch g_o (m_Cn N_o) lt_o x_o i_o j_o r_o.toNat).toNat) = va_rf (m_co ra (m_ch g_o (m_Cn N_o) lt_o x_o i_o j_o (r_o + 1).toNat)) by rw [hstay (by first | exact Or.inl hlv | exact Or.inr (Or.inl (by omega)) | exact Or.inr (Or.inr hno))]; unfold m_co; rw [if_neg hbn]; rfl]
                  exact ih6 (r_o + 1) (by omega) (by omega)
                · exfalso; omega
              · refine k_iconst h_o dX0_chosenRule_58 ?_
                refine k_goto h_o 63 dX0_chosenRule_59 (by decide) ?_
                have hah : (m_ch g_o (m_Cn N_o) lt_o x_o i_o j_o r_o.toNat) = -1 ∨ g_o 5 (m_ch g_o (m_Cn N_o) lt_o x_o i_o j_o r_o.toNat).toNat < g_o 5 r_o.toNat := by first | exact Or.inl hbn | exact Or.inr (by omega)
                refine k_istore (lv' := [(8, .int (iI 1)), (7, .ref (ra r_o.toNat)), (0, .ref ag), (1, .ref a_o), (2, .int (iI x_o)), (3, .int (iI i_o)), (4, .int (iI j_o)), (5, .ref (ra (m_ch g_o (m_Cn N_o) lt_o x_o i_o j_o r_o.toNat).toNat)), (6, .int (iI r_o))]) h_o dX0_chosenRule_63 (by decide) rfl ?_
                refine k_iload h_o 0 dX0_chosenRule_65 rfl ?_
                refine k_ifeq h_o 87 (by decide) dX0_chosenRule_67 (by decide) (fun h67_o => ?_) (fun h67_o => ?_)
                · exfalso; omega
                · refine k_aload_n h_o 3 dX0_chosenRule_70 rfl rfl ?_
                  refine k_aload h_o 1 dX0_chosenRule_71 rfl ?_
                  refine k_iload_n h_o 5 dX0_chosenRule_73 rfl rfl ?_
                  refine k_iload h_o 6 dX0_chosenRule_74 rfl ?_
                  refine k_callV (As := [.ref (ra r_o.toNat), .int (iI i_o), .int (iI j_o)]) (rest := []) h_o mX3_splitOf kq_2_28 (c_X3_splitOf hl0 hsp hlt hN_o (hgr.2.2.1 r_o.toNat (by omega)) hrw.1 hi_o hj) q_o hsp.1 rfl rfl rfl (Nat.le_of_ble_eq_true rfl) ⟨rfl, rfl, ⟨(Nat.le_of_ble_eq_true rfl), (Nat.le_of_ble_eq_true rfl)⟩, ⟨(Nat.le_of_ble_eq_true rfl), (Nat.le_of_ble_eq_true rfl)⟩⟩ dX0_chosenRule_76 (kcI fun z76_o w76_o hp => ?_)
                  obtain ⟨rfl, rfl⟩ := hp
                  by_cases hwy : 0 < m_wy (m_Cn N_o) lt_o (g_o 2 r_o.toNat) (g_o 3 r_o.toNat) (g_o 4 r_o.toNat) i_o j_o
                  · refine k_top (z' := (m_sk (m_Cn N_o) lt_o (g_o 2 r_o.toNat) (g_o 3 r_o.toNat) (g_o 4 r_o.toNat) i_o j_o) * 10 + (m_sl (m_Cn N_o) lt_o (g_o 2 r_o.toNat) (g_o 3 r_o.toNat) (g_o 4 r_o.toNat) i_o j_o)) (if_pos hwy) ?_
                    have hsps := m_split hi_o.2 hwy
                    refine k_iconst h_o dX0_chosenRule_79 ?_
                    refine k_icmp_eq h_o 87 (by omega) (by decide) dX0_chosenRule_80 (by decide) (fun h80_o => ?_) (fun h80_o => ?_)
                    · exfalso; omega
                    · have hokr : m_okr g_o (m_Cn N_o) lt_o x_o i_o j_o r_o.toNat := ⟨hlv.2.2, by omega, hwy⟩
                      refine k_aload h_o 1 dX0_chosenRule_83 rfl ?_
                      refine k_astore (lv' := [(5, .ref (ra r_o.toNat)), (8, .int (iI 1)), (7, .ref (ra r_o.toNat)), (0, .ref ag), (1, .ref a_o), (2, .int (iI x_o)), (3, .int (iI i_o)), (4, .int (iI j_o)), (6, .int (iI r_o))]) h_o dX0_chosenRule_85 (by decide) rfl ?_
                      refine k_iinc (lv' := [(6, .int (iI (r_o + 1))), (5, .ref (ra r_o.toNat)), (8, .int (iI 1)), (7, .ref (ra r_o.toNat)), (0, .ref ag), (1, .ref a_o), (2, .int (iI x_o)), (3, .int (iI i_o)), (4, .int (iI j_o))]) h_o 8 dX0_chosenRule_87 rfl (by decide) rfl ?_
                      refine k_goto h_o 6 dX0_chosenRule_90 (by decide) ?_
                      refine k_sub (lv' := [(0, .ref ag), (1, .ref a_o), (2, .int (iI x_o)), (3, .int (iI i_o)), (4, .int (iI j_o)), (5, .ref (ra r_o.toNat)), (6, .int (iI (r_o + 1)))]) [4, 5, 6, 7, 8, 1, 0] rfl ?_
                      rw [show Value.ref (ra r_o.toNat) = va_rf (m_co ra (m_ch g_o (m_Cn N_o) lt_o x_o i_o j_o (r_o + 1).toNat)) by rw [show (r_o + 1).toNat = r_o.toNat + 1 by omega, m_ch_t hokr hah]; unfold m_co; rw [if_neg (by omega)]; rw [show ((r_o.toNat : Int)).toNat = r_o.toNat by omega]; rfl]
                      exact ih6 (r_o + 1) (by omega) (by omega)
                  · refine k_top (z' := -1) (if_neg hwy) ?_
                    refine k_iconst h_o dX0_chosenRule_79 ?_
                    refine k_icmp_eq h_o 87 (by decide) (by decide) dX0_chosenRule_80 (by decide) (fun h80_o => ?_) (fun h80_o => ?_)
                    · have hno : ¬ (m_okr g_o (m_Cn N_o) lt_o x_o i_o j_o r_o.toNat ∧ ((m_ch g_o (m_Cn N_o) lt_o x_o i_o j_o r_o.toNat) = -1 ∨ g_o 5 (m_ch g_o (m_Cn N_o) lt_o x_o i_o j_o r_o.toNat).toNat < g_o 5 r_o.toNat)) := fun q_o => hwy q_o.1.2.2
                      refine k_iinc (lv' := [(6, .int (iI (r_o + 1))), (8, .int (iI 1)), (7, .ref (ra r_o.toNat)), (0, .ref ag), (1, .ref a_o), (2, .int (iI x_o)), (3, .int (iI i_o)), (4, .int (iI j_o)), (5, .ref (ra (m_ch g_o (m_Cn N_o) lt_o x_o i_o j_o r_o.toNat).toNat))]) h_o 8 dX0_chosenRule_87 rfl (by decide) rfl ?_
                      refine k_goto h_o 6 dX0_chosenRule_90 (by decide) ?_
                      refine k_sub (lv' := [(0, .ref ag), (1, .ref a_o), (2, .int (iI x_o)), (3, .int (iI i_o)), (4, .int (iI j_o)), (5, .ref (ra (m_ch g_o (m_Cn N_o) lt_o x_o i_o j_o r_o.toNat).toNat)), (6, .int (iI (r_o + 1)))]) [3, 4, 5, 6, 7, 8, 0] rfl ?_
                      rw [show Value.ref (ra (m_ch g_o (m_Cn N_o) lt_o x_o i_o j_o r_o.toNat).toNat) = va_rf (m_co ra (m_ch g_o (m_Cn N_o) lt_o x_o i_o j_o (r_o + 1).toNat)) by rw [hstay (by first | exact Or.inl hlv | exact Or.inr (Or.inl (by omega)) | exact Or.inr (Or.inr hno))]; unfold m_co; rw [if_neg hbn]; rfl]
                      exact ih6 (r_o + 1) (by omega) (by omega)
                    · exfalso; omega
            · refine k_goto h_o 87 dX0_chosenRule_37 (by decide) ?_
              refine k_iinc (lv' := [(6, .int (iI (r_o + 1))), (7, .ref (ra r_o.toNat)), (0, .ref ag), (1, .ref a_o), (2, .int (iI x_o)), (3, .int (iI i_o)), (4, .int (iI j_o)), (5, .ref (ra (m_ch g_o (m_Cn N_o) lt_o x_o i_o j_o r_o.toNat).toNat))]) h_o 7 dX0_chosenRule_87 rfl (by decide) rfl ?_
              refine k_goto h_o 6 dX0_chosenRule_90 (by decide) ?_
              refine k_sub (lv' := [(0, .ref ag), (1, .ref a_o), (2, .int (iI x_o)), (3, .int (iI i_o)), (4, .int (iI j_o)), (5, .ref (ra (m_ch g_o (m_Cn N_o) lt_o x_o i_o j_o r_o.toNat).toNat)), (6, .int (iI (r_o + 1)))]) [2, 3, 4, 5, 6, 7, 0] rfl ?_
              rw [show Value.ref (ra (m_ch g_o (m_Cn N_o) lt_o x_o i_o j_o r_o.toNat).toNat) = va_rf (m_co ra (m_ch g_o (m_Cn N_o) lt_o x_o i_o j_o (r_o + 1).toNat)) by rw [hstay (by first | exact Or.inl hlv | exact Or.inr (Or.inl (by omega)) | exact Or.inr (Or.inr hno))]; unfold m_co; rw [if_neg hbn]; rfl]
              exact ih6 (r_o + 1) (by omega) (by omega)
          · refine k_topN ho ?_
            refine k_astoreN (lv' := [(7, .null), (0, .ref ag), (1, .ref a_o), (2, .int (iI x_o)), (3, .int (iI i_o)), (4, .int (iI j_o)), (5, .ref (ra (m_ch g_o (m_Cn N_o) lt_o x_o i_o j_o r_o.toNat).toNat)), (6, .int (iI r_o))]) h_o dX0_chosenRule_21 (by decide) rfl ?_
            refine k_aloadN h_o 0 dX0_chosenRule_23 rfl ?_
            refine k_ifnullN h_o 87 dX0_chosenRule_25 (by decide) ?_
            refine k_iinc (lv' := [(6, .int (iI (r_o + 1))), (7, .null), (0, .ref ag), (1, .ref a_o), (2, .int (iI x_o)), (3, .int (iI i_o)), (4, .int (iI j_o)), (5, .ref (ra (m_ch g_o (m_Cn N_o) lt_o x_o i_o j_o r_o.toNat).toNat))]) h_o 7 dX0_chosenRule_87 rfl (by decide) rfl ?_
            refine k_goto h_o 6 dX0_chosenRule_90 (by decide) ?_
            refine k_sub (lv' := [(0, .ref ag), (1, .ref a_o), (2, .int (iI x_o)), (3, .int (iI i_o)), (4, .int (iI j_o)), (5, .ref (ra (m_ch g_o (m_Cn N_o) lt_o x_o i_o j_o r_o.toNat).toNat)), (6, .int (iI (r_o + 1)))]) [2, 3, 4, 5, 6, 7, 0] rfl ?_
            rw [show Value.ref (ra (m_ch g_o (m_Cn N_o) lt_o x_o i_o j_o r_o.toNat).toNat) = va_rf (m_co ra (m_ch g_o (m_Cn N_o) lt_o x_o i_o j_o (r_o + 1).toNat)) by rw [hstay (by first | exact Or.inl hlv | exact Or.inr (Or.inl (by omega)) | exact Or.inr (Or.inr hno))]; unfold m_co; rw [if_neg hbn]; rfl]
            exact ih6 (r_o + 1) (by omega) (by omega)
  refine k_sub (lv' := [(0, .ref ag), (1, .ref a_o), (2, .int (iI x_o)), (3, .int (iI i_o)), (4, .int (iI j_o)), (5, .null), (6, .int (iI 0))]) [2, 3, 4, 5, 6, 1, 0] rfl ?_
  show kG E_o X_o 9 _ _ _ 6 [(0, .ref ag), (1, .ref a_o), (2, .int (iI x_o)), (3, .int (iI i_o)), (4, .int (iI j_o)), (5, va_rf (m_co ra (m_ch g_o (m_Cn N_o) lt_o x_o i_o j_o (0 : Int).toNat))), (6, .int (iI 0))] []
  exact L6 (((nr : Int) - 0 : Int).toNat + 1) 0 (by omega) (by omega)
