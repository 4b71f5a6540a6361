/-- the trial of names, up to a_o depth d_o -/
def kTNm (E_o : kE) (l_o : Launch) (d_o : Nat) : Prop := ∀ {w_o : kW} {ax ak q_o a_o la na : Nat} {lt_o : Nat → Int} {N_o : Nat → Nat} {c_o : Int} {ag ap nr : Nat} {ra : Nat → Nat} {g_o : Nat → Nat → Int} {kn : Nat → Int} {nm i_o j_o L_o : Int} (hE : kTrE w_o ax ak q_o a_o la na lt_o N_o c_o ag ap nr ra g_o) (hk : kTk g_o nr lt_o kn) (hn : m_isN nm) (hi_o : 0 ≤ i_o ∧ i_o ≤ j_o) (hj : j_o < 10) (hd : m_ms nm i_o j_o ≤ d_o) (hL : 1 ≤ L_o ∧ L_o + (m_ms nm i_o j_o : Int) ≤ 26), kM E_o l_o yX5_tryName (.code yX5_tryName cX5_tryName 11 (some .int) :: kAL) { frames := 4 * d_o + 2, cells := 0, slots := 0, locals := 114 * d_o + 60 } 0 0 [.ref ax, .ref ag, .ref a_o, .int (iI nm), .int (iI i_o), .int (iI j_o), .int (iI L_o)] (kset w_o 16 ak (ai 500 kn)) (pI (fun z_o w2_o => ((m_TT g_o nr lt_o nm i_o j_o : Nat) : Int) = z_o ∧ ∃ kn2 : Nat → Int, (kset w_o 16 ak (ai 500 kn2)) = w2_o ∧ kTk g_o nr lt_o kn2))

set_option maxHeartbeats 4000000 in
set_option maxRecDepth 100000 in
theorem c_X5_tryPart {E_o : kE} {l_o : Launch} (hl0 : l_o.stackTraces = false) {d_o : Nat} (hNd : kTNm E_o l_o d_o) {w_o : kW} {ax ak q_o a_o la na : Nat} {lt_o : Nat → Int} {N_o : Nat → Nat} {c_o : Int} {ag ap nr : Nat} {ra : Nat → Nat} {g_o : Nat → Nat → Int} {kn : Nat → Int} {s_o i_o j_o L_o : Int} (hE : kTrE w_o ax ak q_o a_o la na lt_o N_o c_o ag ap nr ra g_o) (hk : kTk g_o nr lt_o kn) (hs : m_isS s_o) (hi_o : 0 ≤ i_o ∧ i_o ≤ j_o) (hj : j_o < 10) (hd : ¬ m_isL s_o → m_ms s_o i_o j_o ≤ d_o ∧ L_o + 1 + (m_ms s_o i_o j_o : Int) ≤ 26) (hL : 1 ≤ L_o ∧ L_o ≤ 26) : kM E_o l_o yX5_tryPart (.code yX5_tryPart cX5_tryPart 7 (some .int) :: kAL) { frames := 4 * d_o + 3, cells := 0, slots := 0, locals := 114 * d_o + 90 } 0 0 [.ref ax, .ref ag, .ref a_o, .int (iI s_o), .int (iI i_o), .int (iI j_o), .int (iI L_o)] (kset w_o 16 ak (ai 500 kn)) (pI (fun z_o w2_o => ((m_part (m_TT g_o nr lt_o) lt_o s_o i_o j_o : Nat) : Int) = z_o ∧ ∃ kn2 : Nat → Int, (kset w_o 16 ak (ai 500 kn2)) = w2_o ∧ kTk g_o nr lt_o kn2)) := by
  refine kM_of hl0 (by decide +kernel) (Nat.le_of_ble_eq_true rfl) ?_
  intro X_o hXl h_o hr hin
  subst hXl
  obtain ⟨he1, hsp, hgr, hlt, hN_o, hwf, hqq⟩ := hE
  have hspA : ∀ kn : Nat → Int, (kSp (kset w_o 16 ak (ai 500 kn)) q_o a_o la na lt_o N_o c_o) := fun kn => hsp.ne (by omega) (by omega) (by omega)
  have hgrA : ∀ kn : Nat → Int, (kGr (kset w_o 16 ak (ai 500 kn)) ag ap nr ra g_o) := fun kn => hgr.ne (by decide) (by decide) (by decide)
  have hnr := hgr.2.2.2
  show kG E_o X_o 7 0 0 (kset w_o 16 ak (ai 500 kn)) 0 [(0, .ref ax), (1, .ref ag), (2, .ref a_o), (3, .int (iI s_o)), (4, .int (iI i_o)), (5, .int (iI j_o)), (6, .int (iI L_o))] []
  refine k_iload_n h_o 3 dX5_tryPart_0 rfl rfl ?_
  refine k_callSN (As := [.int (iI s_o)]) (rest := []) h_o mX6_isLetter kq_1_204 (c_X6_isLetter hl0 (by omega)) rfl rfl (Nat.le_of_ble_eq_true rfl) ⟨rfl, rfl, ⟨by show 0 + 1 ≤ 4 * d_o + 3; omega, by show 8 + (1 + 11) + (0) ≤ 114 * d_o + 90; omega⟩, ⟨(Nat.le_of_ble_eq_true rfl), (Nat.le_of_ble_eq_true rfl)⟩⟩ dX5_tryPart_1 (kcI fun z1_o w1_o hp => ?_)
  obtain ⟨rfl, rfl⟩ := hp
  refine k_ifBeq h_o 17 dX5_tryPart_4 (by decide) (fun h4_o => ?_) (fun h4_o => ?_)
  · refine k_aload_n h_o 0 dX5_tryPart_17 rfl rfl ?_
    refine k_aload_n h_o 1 dX5_tryPart_18 rfl rfl ?_
    refine k_aload_n h_o 2 dX5_tryPart_19 rfl rfl ?_
    refine k_iload_n h_o 3 dX5_tryPart_20 rfl rfl ?_
    refine k_iload h_o 4 dX5_tryPart_21 rfl ?_
    refine k_iload h_o 5 dX5_tryPart_23 rfl ?_
    refine k_iload h_o 6 dX5_tryPart_25 rfl ?_
    refine k_iconst h_o dX5_tryPart_27 ?_
    refine k_iadd h_o dX5_tryPart_28 ?_
    refine k_callV (As := [.ref ag, .ref a_o, .int (iI s_o), .int (iI i_o), .int (iI j_o), .int (iI (L_o + 1))]) (rest := []) h_o mX5_tryName kq_1_188 (hNd ⟨he1, hsp, hgr, hlt, hN_o, hwf, hqq⟩ hk (by omega) hi_o hj (hd h4_o).1 (by have := (hd h4_o).2; omega)) 15 ((kset_ne (by decide)).trans he1) rfl rfl rfl (Nat.le_of_ble_eq_true rfl) ⟨rfl, rfl, ⟨by show 4 * d_o + 2 + 1 ≤ 4 * d_o + 3; omega, by show 8 + (11 + 11) + (114 * d_o + 60) ≤ 114 * d_o + 90; omega⟩, ⟨(Nat.le_of_ble_eq_true rfl), (Nat.le_of_ble_eq_true rfl)⟩⟩ dX5_tryPart_29 (kcI fun z29_o w29_o hp => ?_)
    obtain ⟨rfl, kq1, rfl, hkq2⟩ := hp
    exact k_iret h_o hr rfl (⟨_, rfl, (by unfold m_part; rw [if_neg h4_o]), kq1, rfl, hkq2⟩) (by omega) (by omega) dX5_tryPart_32
  · refine k_aload_n h_o 2 dX5_tryPart_7 rfl rfl ?_
    refine k_iload_n h_o 3 dX5_tryPart_8 rfl rfl ?_
    refine k_iload h_o 4 dX5_tryPart_9 rfl ?_
    refine k_iload h_o 5 dX5_tryPart_11 rfl ?_
    refine k_callV (As := [.int (iI s_o), .int (iI i_o), .int (iI j_o)]) (rest := []) h_o mX3_treesOf kq_1_207 (c_X3_treesOf hl0 (hspA kn) hlt hN_o (Or.inr hs) (by omega) (by omega)) q_o (hspA kn).1 rfl rfl rfl (Nat.le_of_ble_eq_true rfl) ⟨rfl, rfl, ⟨by show 0 + 1 ≤ 4 * d_o + 3; omega, by show 8 + (4 + 11) + (0) ≤ 114 * d_o + 90; omega⟩, ⟨(Nat.le_of_ble_eq_true rfl), (Nat.le_of_ble_eq_true rfl)⟩⟩ dX5_tryPart_13 (kcI fun z13_o w13_o hp => ?_)
    obtain ⟨rfl, rfl⟩ := hp
    exact k_iret h_o hr rfl (⟨_, rfl, (by rw [m_tr_s (by omega) hi_o.2]; unfold m_part; rw [if_pos h4_o, if_pos h4_o]), kn, rfl, hk⟩) (by omega) (by omega) dX5_tryPart_16

set_option maxHeartbeats 4000000 in
set_option maxRecDepth 100000 in
theorem c_X5_tryBehindFirst {E_o : kE} {l_o : Launch} (hl0 : l_o.stackTraces = false) {d_o : Nat} (hNd : kTNm E_o l_o d_o) {w_o : kW} {ax ak q_o a_o la na : Nat} {lt_o : Nat → Int} {N_o : Nat → Nat} {c_o : Int} {ag ap nr : Nat} {ra : Nat → Nat} {g_o : Nat → Nat → Int} {kn : Nat → Int} {r_o b_o : Nat} {i_o j_o L_o : Int} (hE : kTrE w_o ax ak q_o a_o la na lt_o N_o c_o ag ap nr ra g_o) (hk : kTk g_o nr lt_o kn) (hru : w_o (100 + r_o) = some (b_o, kRl g_o r_o)) (hrr : r_o < 12) (hwr : m_wf g_o r_o) (h3n : g_o 3 r_o ≠ -1) (hi_o : 0 ≤ i_o ∧ i_o ≤ j_o) (hj : j_o < 10) (hd : (j_o - i_o) * 5 + 5 ≤ (d_o : Int)) (hL : 1 ≤ L_o ∧ L_o + 1 + ((j_o - i_o) * 5 + 5) ≤ 26) : kM E_o l_o yX5_tryBehindFirst (.code yX5_tryBehindFirst cX5_tryBehindFirst 10 (some .int) :: kAL) { frames := 4 * d_o + 4, cells := 0, slots := 0, locals := 114 * d_o + 116 } 0 0 [.ref ax, .ref ag, .ref a_o, .ref b_o, .int (iI i_o), .int (iI j_o), .int (iI L_o)] (kset w_o 16 ak (ai 500 kn)) (pI (fun z_o w2_o => ((m_cap (m_bh (m_TT g_o nr lt_o) lt_o (g_o 3 r_o) (g_o 4 r_o) i_o j_o) : Nat) : Int) = z_o ∧ ∃ kn2 : Nat → Int, (kset w_o 16 ak (ai 500 kn2)) = w2_o ∧ kTk g_o nr lt_o kn2)) := by
  refine kM_of hl0 (by decide +kernel) (Nat.le_of_ble_eq_true rfl) ?_
  intro X_o hXl h_o hr hin
  subst hXl
  obtain ⟨he1, hsp, hgr, hlt, hN_o, hwf, hqq⟩ := hE
  have hspA : ∀ kn : Nat → Int, (kSp (kset w_o 16 ak (ai 500 kn)) q_o a_o la na lt_o N_o c_o) := fun kn => hsp.ne (by omega) (by omega) (by omega)
  have hgrA : ∀ kn : Nat → Int, (kGr (kset w_o 16 ak (ai 500 kn)) ag ap nr ra g_o) := fun kn => hgr.ne (by decide) (by decide) (by decide)
  have hnr := hgr.2.2.2
  obtain ⟨hw1, hw2, hw3⟩ := hwr
  show kG E_o X_o 10 0 0 (kset w_o 16 ak (ai 500 kn)) 0 [(0, .ref ax), (1, .ref ag), (2, .ref a_o), (3, .ref b_o), (4, .int (iI i_o)), (5, .int (iI j_o)), (6, .int (iI L_o))] []
  refine k_aload_n h_o 3 dX5_tryBehindFirst_0 rfl rfl ?_
  refine k_get h_o (100 + r_o) kf_X5_69 ((kset_ne (by omega)).trans hru) rfl dX5_tryBehindFirst_1 ?_
  refine k_iconst h_o dX5_tryBehindFirst_4 ?_
  refine k_icmp_ne h_o 25 (by omega) (by decide) dX5_tryBehindFirst_5 (by decide) (fun h5_o => ?_) (fun h5_o => ?_)
  · refine k_iconst h_o dX5_tryBehindFirst_25 ?_
    refine k_istore (lv' := [(7, .int (iI 0)), (0, .ref ax), (1, .ref ag), (2, .ref a_o), (3, .ref b_o), (4, .int (iI i_o)), (5, .int (iI j_o)), (6, .int (iI L_o))]) h_o dX5_tryBehindFirst_26 (by decide) rfl ?_
    refine k_iload h_o 5 dX5_tryBehindFirst_28 rfl ?_
    refine k_istore (lv' := [(8, .int (iI i_o)), (7, .int (iI 0)), (0, .ref ax), (1, .ref ag), (2, .ref a_o), (3, .ref b_o), (4, .int (iI i_o)), (5, .int (iI j_o)), (6, .int (iI L_o))]) h_o dX5_tryBehindFirst_30 (by decide) rfl ?_
    have L32 : ∀ (mm : Nat) (k_o : Int) (s_o : Nat) (kn3 : Nat → Int), (i_o ≤ k_o ∧ k_o ≤ j_o) → (s_o ≤ 1000) → (s_o = m_cap (m_S (fun k_o => m_part (m_TT g_o nr lt_o) lt_o (g_o 3 r_o) i_o k_o * m_part (m_TT g_o nr lt_o) lt_o (g_o 4 r_o) (k_o + 1) j_o) i_o k_o)) → (kTk g_o nr lt_o kn3) → (j_o - k_o < (mm : Int)) → kG E_o X_o 10 0 0 (kset w_o 16 ak (ai 500 kn3)) 32 [(0, .ref ax), (1, .ref ag), (2, .ref a_o), (3, .ref b_o), (4, .int (iI i_o)), (5, .int (iI j_o)), (6, .int (iI L_o)), (7, .int (iI ((s_o : Nat) : Int))), (8, .int (iI k_o))] [] := by
      intro mm
      induction mm with
      | zero =>
        intro k_o s_o kn3 hk8 hs1 hs2 hk3 hm_o
        exfalso; omega
      | succ mm ih32 =>
        intro k_o s_o kn3 hk8 hs1 hs2 hk3 hm_o
        refine k_iload h_o 8 dX5_tryBehindFirst_32 rfl ?_
        refine k_iload h_o 5 dX5_tryBehindFirst_34 rfl ?_
        refine k_icmp_ge h_o 100 (by omega) (by omega) dX5_tryBehindFirst_36 (by decide) (fun h36_o => ?_) (fun h36_o => ?_)
        · refine k_iload h_o 7 dX5_tryBehindFirst_100 rfl ?_
          exact k_iret h_o hr rfl (⟨_, rfl, (by rw [hs2, show k_o = j_o by omega]; unfold m_bh; rw [if_neg (by omega)]; rfl), kn3, rfl, hk3⟩) (by omega) (by omega) dX5_tryBehindFirst_102
        · refine k_aload_n h_o 0 dX5_tryBehindFirst_39 rfl rfl ?_
          refine k_aload_n h_o 1 dX5_tryBehindFirst_40 rfl rfl ?_
          refine k_aload_n h_o 2 dX5_tryBehindFirst_41 rfl rfl ?_
          refine k_aload_n h_o 3 dX5_tryBehindFirst_42 rfl rfl ?_
          refine k_get h_o (100 + r_o) kf_X5_57 ((kset_ne (by omega)).trans hru) rfl dX5_tryBehindFirst_43 ?_
          refine k_iload h_o 4 dX5_tryBehindFirst_46 rfl ?_
          refine k_iload h_o 8 dX5_tryBehindFirst_48 rfl ?_
          refine k_iload h_o 6 dX5_tryBehindFirst_50 rfl ?_
          refine k_callV (As := [.ref ag, .ref a_o, .int (iI (g_o 3 r_o)), .int (iI i_o), .int (iI k_o), .int (iI L_o)]) (rest := []) h_o mX5_tryPart kq_1_200 (c_X5_tryPart hl0 hNd ⟨he1, hsp, hgr, hlt, hN_o, hwf, hqq⟩ hk3 (by omega) (by omega) (by omega) (fun hnl => by have q1 := m_ms_eq (nm := g_o 3 r_o) (i := i_o) (j := k_o) (by omega) (by omega); omega) (by omega)) 15 ((kset_ne (by decide)).trans he1) rfl rfl rfl (Nat.le_of_ble_eq_true rfl) ⟨rfl, rfl, ⟨by show 4 * d_o + 3 + 1 ≤ 4 * d_o + 4; omega, by show 8 + (7 + 11) + (114 * d_o + 90) ≤ 114 * d_o + 116; omega⟩, ⟨(Nat.le_of_ble_eq_true rfl), (Nat.le_of_ble_eq_true rfl)⟩⟩ dX5_tryBehindFirst_52 (kcI fun z52_o w52_o hp => ?_)
          obtain ⟨rfl, kq3, rfl, hkq4⟩ := hp
          refine k_istore (lv' := [(9, .int (iI ((m_part (m_TT g_o nr lt_o) lt_o (g_o 3 r_o) i_o k_o : Nat) : Int))), (0, .ref ax), (1, .ref ag), (2, .ref a_o), (3, .ref b_o), (4, .int (iI i_o)), (5, .int (iI j_o)), (6, .int (iI L_o)), (7, .int (iI ((s_o : Nat) : Int))), (8, .int (iI k_o))]) h_o dX5_tryBehindFirst_55 (by decide) rfl ?_
          refine k_iload h_o 0 dX5_tryBehindFirst_57 rfl ?_
          refine k_ifle h_o 94 (m_natrg m_part_le) dX5_tryBehindFirst_59 (by decide) (fun h59_o => ?_) (fun h59_o => ?_)
          · refine k_iinc (lv' := [(8, .int (iI (k_o + 1))), (9, .int (iI ((m_part (m_TT g_o nr lt_o) lt_o (g_o 3 r_o) i_o k_o : Nat) : Int))), (0, .ref ax), (1, .ref ag), (2, .ref a_o), (3, .ref b_o), (4, .int (iI i_o)), (5, .int (iI j_o)), (6, .int (iI L_o)), (7, .int (iI ((s_o : Nat) : Int)))]) h_o 9 dX5_tryBehindFirst_94 rfl (by decide) rfl ?_
            refine k_goto h_o 32 dX5_tryBehindFirst_97 (by decide) ?_
            refine k_sub (lv' := [(0, .ref ax), (1, .ref ag), (2, .ref a_o), (3, .ref b_o), (4, .int (iI i_o)), (5, .int (iI j_o)), (6, .int (iI L_o)), (7, .int (iI ((s_o : Nat) : Int))), (8, .int (iI (k_o + 1)))]) [2, 3, 4, 5, 6, 7, 8, 9, 0] rfl ?_
            exact ih32 (k_o + 1) s_o kq3 (by omega) (by first | exact hs1 | exact m_cap_le _) (m_sum_stay (f := (fun k_o => m_part (m_TT g_o nr lt_o) lt_o (g_o 3 r_o) i_o k_o * m_part (m_TT g_o nr lt_o) lt_o (g_o 4 r_o) (k_o + 1) j_o)) hk8.1 hs2 (by show _ * _ = 0; rw [show m_part (m_TT g_o nr lt_o) lt_o (g_o 3 r_o) i_o k_o = 0 by omega, Nat.zero_mul])) hkq4 (by omega)
          · refine k_iload h_o 8 dX5_tryBehindFirst_62 rfl ?_
            refine k_iload h_o 0 dX5_tryBehindFirst_64 rfl ?_
            refine k_aload_n h_o 1 dX5_tryBehindFirst_66 rfl rfl ?_
            refine k_aload_n h_o 2 dX5_tryBehindFirst_67 rfl rfl ?_
            refine k_aload_n h_o 3 dX5_tryBehindFirst_68 rfl rfl ?_
            refine k_aload_n h_o 4 dX5_tryBehindFirst_69 rfl rfl ?_
            refine k_get h_o (100 + r_o) kf_X5_69 ((kset_ne (by omega)).trans hru) rfl dX5_tryBehindFirst_70 ?_
            refine k_iload h_o 9 dX5_tryBehindFirst_73 rfl ?_
            refine k_iconst h_o dX5_tryBehindFirst_75 ?_
            refine k_iadd h_o dX5_tryBehindFirst_76 ?_
            refine k_iload h_o 6 dX5_tryBehindFirst_77 rfl ?_
            refine k_iload h_o 7 dX5_tryBehindFirst_79 rfl ?_
            refine k_callV (As := [.ref ag, .ref a_o, .int (iI (g_o 4 r_o)), .int (iI (k_o + 1)), .int (iI j_o), .int (iI L_o)]) (rest := [.int (iI ((m_part (m_TT g_o nr lt_o) lt_o (g_o 3 r_o) i_o k_o : Nat) : Int)), .int (iI ((s_o : Nat) : Int))]) h_o mX5_tryPart kq_1_200 (c_X5_tryPart hl0 hNd ⟨he1, hsp, hgr, hlt, hN_o, hwf, hqq⟩ hkq4 (by omega) (by omega) (by omega) (fun hnl => by have q1 := m_ms_eq (nm := g_o 4 r_o) (i := k_o + 1) (j := j_o) (by omega) (by omega); omega) (by omega)) 15 ((kset_ne (by decide)).trans he1) rfl rfl rfl (Nat.le_of_ble_eq_true rfl) ⟨rfl, rfl, ⟨by show 4 * d_o + 3 + 1 ≤ 4 * d_o + 4; omega, by show 8 + (7 + 11) + (114 * d_o + 90) ≤ 114 * d_o + 116; omega⟩, ⟨(Nat.le_of_ble_eq_true rfl), (Nat.le_of_ble_eq_true rfl)⟩⟩ dX5_tryBehindFirst_81 (kcI fun z81_o w81_o hp => ?_)
            obtain ⟨rfl, kq5, rfl, hkq6⟩ := hp
            refine k_imul h_o dX5_tryBehindFirst_84 ?_
            refine k_callSN (As := [.int (iI (((m_part (m_TT g_o nr lt_o) lt_o (g_o 3 r_o) i_o k_o : Nat) : Int) * ((m_part (m_TT g_o nr lt_o) lt_o (g_o 4 r_o) (k_o + 1) j_o : Nat) : Int)))]) (rest := [.int (iI ((s_o : Nat) : Int))]) h_o mX6_limited kq_1_212 (c_X6_limited hl0 (m_mul_rg m_part_le m_part_le)) rfl rfl (Nat.le_of_ble_eq_true rfl) ⟨rfl, rfl, ⟨by show 0 + 1 ≤ 4 * d_o + 4; omega, by show 8 + (1 + 11) + (0) ≤ 114 * d_o + 116; omega⟩, ⟨(Nat.le_of_ble_eq_true rfl), (Nat.le_of_ble_eq_true rfl)⟩⟩ dX5_tryBehindFirst_85 (kcI fun z85_o w85_o hp => ?_)
            obtain ⟨rfl, rfl⟩ := hp
            refine k_top (z' := ((m_cap ((fun k_o => m_part (m_TT g_o nr lt_o) lt_o (g_o 3 r_o) i_o k_o * m_part (m_TT g_o nr lt_o) lt_o (g_o 4 r_o) (k_o + 1) j_o) k_o) : Nat) : Int)) (by rw [← Int.natCast_mul, m_lim_cap]) ?_
            refine k_iadd h_o dX5_tryBehindFirst_88 ?_
            refine k_callSN (As := [.int (iI (((s_o : Nat) : Int) + ((m_cap ((fun k_o => m_part (m_TT g_o nr lt_o) lt_o (g_o 3 r_o) i_o k_o * m_part (m_TT g_o nr lt_o) lt_o (g_o 4 r_o) (k_o + 1) j_o) k_o) : Nat) : Int)))]) (rest := []) h_o mX6_limited kq_1_212 (c_X6_limited hl0 (m_add_rg hs1 (m_cap_le _))) rfl rfl (Nat.le_of_ble_eq_true rfl) ⟨rfl, rfl, ⟨by show 0 + 1 ≤ 4 * d_o + 4; omega, by show 8 + (1 + 11) + (0) ≤ 114 * d_o + 116; omega⟩, ⟨(Nat.le_of_ble_eq_true rfl), (Nat.le_of_ble_eq_true rfl)⟩⟩ dX5_tryBehindFirst_89 (kcI fun z89_o w89_o hp => ?_)
            obtain ⟨rfl, rfl⟩ := hp
            refine k_top (z' := ((m_cap (s_o + (fun k_o => m_part (m_TT g_o nr lt_o) lt_o (g_o 3 r_o) i_o k_o * m_part (m_TT g_o nr lt_o) lt_o (g_o 4 r_o) (k_o + 1) j_o) k_o) : Nat) : Int)) (by rw [← Int.natCast_add, m_lim_cap, m_cap_addr]) ?_
            refine k_istore (lv' := [(7, .int (iI ((m_cap (s_o + (fun k_o => m_part (m_TT g_o nr lt_o) lt_o (g_o 3 r_o) i_o k_o * m_part (m_TT g_o nr lt_o) lt_o (g_o 4 r_o) (k_o + 1) j_o) k_o) : Nat) : Int))), (9, .int (iI ((m_part (m_TT g_o nr lt_o) lt_o (g_o 3 r_o) i_o k_o : Nat) : Int))), (0, .ref ax), (1, .ref ag), (2, .ref a_o), (3, .ref b_o), (4, .int (iI i_o)), (5, .int (iI j_o)), (6, .int (iI L_o)), (8, .int (iI k_o))]) h_o dX5_tryBehindFirst_92 (by decide) rfl ?_
            refine k_iinc (lv' := [(8, .int (iI (k_o + 1))), (7, .int (iI ((m_cap (s_o + (fun k_o => m_part (m_TT g_o nr lt_o) lt_o (g_o 3 r_o) i_o k_o * m_part (m_TT g_o nr lt_o) lt_o (g_o 4 r_o) (k_o + 1) j_o) k_o) : Nat) : Int))), (9, .int (iI ((m_part (m_TT g_o nr lt_o) lt_o (g_o 3 r_o) i_o k_o : Nat) : Int))), (0, .ref ax), (1, .ref ag), (2, .ref a_o), (3, .ref b_o), (4, .int (iI i_o)), (5, .int (iI j_o)), (6, .int (iI L_o))]) h_o 9 dX5_tryBehindFirst_94 rfl (by decide) rfl ?_
            refine k_goto h_o 32 dX5_tryBehindFirst_97 (by decide) ?_
            refine k_sub (lv' := [(0, .ref ax), (1, .ref ag), (2, .ref a_o), (3, .ref b_o), (4, .int (iI i_o)), (5, .int (iI j_o)), (6, .int (iI L_o)), (7, .int (iI ((m_cap (s_o + (fun k_o => m_part (m_TT g_o nr lt_o) lt_o (g_o 3 r_o) i_o k_o * m_part (m_TT g_o nr lt_o) lt_o (g_o 4 r_o) (k_o + 1) j_o) k_o) : Nat) : Int))), (8, .int (iI (k_o + 1)))]) [3, 4, 5, 6, 7, 8, 9, 1, 0] rfl ?_
            exact ih32 (k_o + 1) (m_cap (s_o + (fun k_o => m_part (m_TT g_o nr lt_o) lt_o (g_o 3 r_o) i_o k_o * m_part (m_TT g_o nr lt_o) lt_o (g_o 4 r_o) (k_o + 1) j_o) k_o)) kq5 (by omega) (by first | exact hs1 | exact m_cap_le _) (m_sum_step (f := (fun k_o => m_part (m_TT g_o nr lt_o) lt_o (g_o 3 r_o) i_o k_o * m_part (m_TT g_o nr lt_o) lt_o (g_o 4 r_o) (k_o + 1) j_o)) hk8.1 hs2) hkq6 (by omega)
    refine k_sub (lv' := [(0, .ref ax), (1, .ref ag), (2, .ref a_o), (3, .ref b_o), (4, .int (iI i_o)), (5, .int (iI j_o)), (6, .int (iI L_o)), (7, .int (iI 0)), (8, .int (iI i_o))]) [2, 3, 4, 5, 6, 7, 8, 1, 0] rfl ?_
    exact L32 ((j_o - i_o : Int).toNat + 1) i_o 0 kn (by omega) (by omega) (by rw [m_S_self (by omega)]; rfl) hk (by omega)
  · refine k_aload_n h_o 0 dX5_tryBehindFirst_8 rfl rfl ?_
    refine k_aload_n h_o 1 dX5_tryBehindFirst_9 rfl rfl ?_
    refine k_aload_n h_o 2 dX5_tryBehindFirst_10 rfl rfl ?_
    refine k_aload_n h_o 3 dX5_tryBehindFirst_11 rfl rfl ?_
    refine k_get h_o (100 + r_o) kf_X5_57 ((kset_ne (by omega)).trans hru) rfl dX5_tryBehindFirst_12 ?_
    refine k_iload h_o 4 dX5_tryBehindFirst_15 rfl ?_
    refine k_iload h_o 5 dX5_tryBehindFirst_17 rfl ?_
    refine k_iload h_o 6 dX5_tryBehindFirst_19 rfl ?_
    refine k_callV (As := [.ref ag, .ref a_o, .int (iI (g_o 3 r_o)), .int (iI i_o), .int (iI j_o), .int (iI L_o)]) (rest := []) h_o mX5_tryPart kq_1_200 (c_X5_tryPart hl0 hNd ⟨he1, hsp, hgr, hlt, hN_o, hwf, hqq⟩ hk (by omega) (by omega) (by omega) (fun hnl => by have q1 := m_ms_eq (nm := g_o 3 r_o) (i := i_o) (j := j_o) (by omega) (by omega); omega) (by omega)) 15 ((kset_ne (by decide)).trans he1) rfl rfl rfl (Nat.le_of_ble_eq_true rfl) ⟨rfl, rfl, ⟨by show 4 * d_o + 3 + 1 ≤ 4 * d_o + 4; omega, by show 8 + (7 + 11) + (114 * d_o + 90) ≤ 114 * d_o + 116; omega⟩, ⟨(Nat.le_of_ble_eq_true rfl), (Nat.le_of_ble_eq_true rfl)⟩⟩ dX5_tryBehindFirst_21 (kcI fun z21_o w21_o hp => ?_)
    obtain ⟨rfl, kq7, rfl, hkq8⟩ := hp
    exact k_iret h_o hr rfl (⟨_, rfl, (by unfold m_bh; rw [if_pos (by omega), m_cap_id m_part_le]), kq7, rfl, hkq8⟩) (by omega) (by omega) dX5_tryBehindFirst_24

set_option maxHeartbeats 4000000 in
set_option maxRecDepth 100000 in
theorem c_X5_tryRule {E_o : kE} {l_o : Launch} (hl0 : l_o.stackTraces = false) {d_o : Nat} (hNd : kTNm E_o l_o d_o) {w_o : kW} {ax ak q_o a_o la na : Nat} {lt_o : Nat → Int} {N_o : Nat → Nat} {c_o : Int} {ag ap nr : Nat} {ra : Nat → Nat} {g_o : Nat → Nat → Int} {kn : Nat → Int} {r_o b_o : Nat} {i_o j_o L_o : Int} (hE : kTrE w_o ax ak q_o a_o la na lt_o N_o c_o ag ap nr ra g_o) (hk : kTk g_o nr lt_o kn) (hru : w_o (100 + r_o) = some (b_o, kRl g_o r_o)) (hrr : r_o < 12) (hwr : m_wf g_o r_o) (hi_o : 0 ≤ i_o ∧ i_o ≤ j_o) (hj : j_o < 10) (hd : (m_ms (g_o 1 r_o) i_o j_o : Int) ≤ (d_o : Int) + 1) (hL : 1 ≤ L_o ∧ L_o + (m_ms (g_o 1 r_o) i_o j_o : Int) ≤ 26) : kM E_o l_o yX5_tryRule (.code yX5_tryRule cX5_tryRule 10 (some .int) :: kAL) { frames := 4 * d_o + 5, cells := 0, slots := 0, locals := 114 * d_o + 145 } 0 0 [.ref ax, .ref ag, .ref a_o, .ref b_o, .int (iI i_o), .int (iI j_o), .int (iI L_o)] (kset w_o 16 ak (ai 500 kn)) (pI (fun z_o w2_o => ((m_cap (m_wy (m_TT g_o nr lt_o) lt_o (g_o 2 r_o) (g_o 3 r_o) (g_o 4 r_o) i_o j_o) : Nat) : Int) = z_o ∧ ∃ kn2 : Nat → Int, (kset w_o 16 ak (ai 500 kn2)) = w2_o ∧ kTk g_o nr lt_o kn2)) := by
  refine kM_of hl0 (by decide +kernel) (Nat.le_of_ble_eq_true rfl) ?_
  intro X_o hXl h_o hr hin
  subst hXl
  obtain ⟨he1, hsp, hgr, hlt, hN_o, hwf, hqq⟩ := hE
  have hspA : ∀ kn : Nat → Int, (kSp (kset w_o 16 ak (ai 500 kn)) q_o a_o la na lt_o N_o c_o) := fun kn => hsp.ne (by omega) (by omega) (by omega)
  have hgrA : ∀ kn : Nat → Int, (kGr (kset w_o 16 ak (ai 500 kn)) ag ap nr ra g_o) := fun kn => hgr.ne (by decide) (by decide) (by decide)
  have hnr := hgr.2.2.2
  obtain ⟨hw1, hw2, hw3⟩ := id hwr
  have hms := m_ms_eq hw1 hi_o.2
  show kG E_o X_o 10 0 0 (kset w_o 16 ak (ai 500 kn)) 0 [(0, .ref ax), (1, .ref ag), (2, .ref a_o), (3, .ref b_o), (4, .int (iI i_o)), (5, .int (iI j_o)), (6, .int (iI L_o))] []
  refine k_aload_n h_o 3 dX5_tryRule_0 rfl rfl ?_
  refine k_get h_o (100 + r_o) kf_X5_57 ((kset_ne (by omega)).trans hru) rfl dX5_tryRule_1 ?_
  refine k_iconst h_o dX5_tryRule_4 ?_
  refine k_icmp_ne h_o 25 (by omega) (by decide) dX5_tryRule_5 (by decide) (fun h5_o => ?_) (fun h5_o => ?_)
  · refine k_iconst h_o dX5_tryRule_25 ?_
    refine k_istore (lv' := [(7, .int (iI 0)), (0, .ref ax), (1, .ref ag), (2, .ref a_o), (3, .ref b_o), (4, .int (iI i_o)), (5, .int (iI j_o)), (6, .int (iI L_o))]) h_o dX5_tryRule_26 (by decide) rfl ?_
    refine k_iload h_o 5 dX5_tryRule_28 rfl ?_
    refine k_istore (lv' := [(8, .int (iI i_o)), (7, .int (iI 0)), (0, .ref ax), (1, .ref ag), (2, .ref a_o), (3, .ref b_o), (4, .int (iI i_o)), (5, .int (iI j_o)), (6, .int (iI L_o))]) h_o dX5_tryRule_30 (by decide) rfl ?_
    have L32 : ∀ (mm : Nat) (k_o : Int) (s_o : Nat) (kn3 : Nat → Int), (i_o ≤ k_o ∧ k_o ≤ j_o) → (s_o ≤ 1000) → (s_o = m_cap (m_S (fun k_o => m_part (m_TT g_o nr lt_o) lt_o (g_o 2 r_o) i_o k_o * m_bh (m_TT g_o nr lt_o) lt_o (g_o 3 r_o) (g_o 4 r_o) (k_o + 1) j_o) i_o k_o)) → (kTk g_o nr lt_o kn3) → (j_o - k_o < (mm : Int)) → kG E_o X_o 10 0 0 (kset w_o 16 ak (ai 500 kn3)) 32 [(0, .ref ax), (1, .ref ag), (2, .ref a_o), (3, .ref b_o), (4, .int (iI i_o)), (5, .int (iI j_o)), (6, .int (iI L_o)), (7, .int (iI ((s_o : Nat) : Int))), (8, .int (iI k_o))] [] := by
      intro mm
      induction mm with
      | zero =>
        intro k_o s_o kn3 hk8 hs1 hs2 hk3 hm_o
        exfalso; omega
      | succ mm ih32 =>
        intro k_o s_o kn3 hk8 hs1 hs2 hk3 hm_o
        refine k_iload h_o 8 dX5_tryRule_32 rfl ?_
        refine k_iload h_o 5 dX5_tryRule_34 rfl ?_
        refine k_icmp_ge h_o 97 (by omega) (by omega) dX5_tryRule_36 (by decide) (fun h36_o => ?_) (fun h36_o => ?_)
        · refine k_iload h_o 7 dX5_tryRule_97 rfl ?_
          exact k_iret h_o hr rfl (⟨_, rfl, (by rw [hs2, show k_o = j_o by omega, m_bh_wy (by omega) hi_o.2]), kn3, rfl, hk3⟩) (by omega) (by omega) dX5_tryRule_99
        · refine k_aload_n h_o 0 dX5_tryRule_39 rfl rfl ?_
          refine k_aload_n h_o 1 dX5_tryRule_40 rfl rfl ?_
          refine k_aload_n h_o 2 dX5_tryRule_41 rfl rfl ?_
          refine k_aload_n h_o 3 dX5_tryRule_42 rfl rfl ?_
          refine k_get h_o (100 + r_o) kf_X5_60 ((kset_ne (by omega)).trans hru) rfl dX5_tryRule_43 ?_
          refine k_iload h_o 4 dX5_tryRule_46 rfl ?_
          refine k_iload h_o 8 dX5_tryRule_48 rfl ?_
          refine k_iload h_o 6 dX5_tryRule_50 rfl ?_
          refine k_callV (As := [.ref ag, .ref a_o, .int (iI (g_o 2 r_o)), .int (iI i_o), .int (iI k_o), .int (iI L_o)]) (rest := []) h_o mX5_tryPart kq_1_200 (c_X5_tryPart hl0 hNd ⟨he1, hsp, hgr, hlt, hN_o, hwf, hqq⟩ hk3 (by omega) (by omega) (by omega) (fun hnl => by have q1 := m_ms_eq (nm := g_o 2 r_o) (i := i_o) (j := k_o) (by omega) (by omega); omega) (by omega)) 15 ((kset_ne (by decide)).trans he1) rfl rfl rfl (Nat.le_of_ble_eq_true rfl) ⟨rfl, rfl, ⟨by show 4 * d_o + 3 + 1 ≤ 4 * d_o + 5; omega, by show 8 + (7 + 11) + (114 * d_o + 90) ≤ 114 * d_o + 145; omega⟩, ⟨(Nat.le_of_ble_eq_true rfl), (Nat.le_of_ble_eq_true rfl)⟩⟩ dX5_tryRule_52 (kcI fun z52_o w52_o hp => ?_)
          obtain ⟨rfl, kq9, rfl, hkq10⟩ := hp
          refine k_istore (lv' := [(9, .int (iI ((m_part (m_TT g_o nr lt_o) lt_o (g_o 2 r_o) i_o k_o : Nat) : Int))), (0, .ref ax), (1, .ref ag), (2, .ref a_o), (3, .ref b_o), (4, .int (iI i_o)), (5, .int (iI j_o)), (6, .int (iI L_o)), (7, .int (iI ((s_o : Nat) : Int))), (8, .int (iI k_o))]) h_o dX5_tryRule_55 (by decide) rfl ?_
          refine k_iload h_o 0 dX5_tryRule_57 rfl ?_
          refine k_ifle h_o 91 (m_natrg m_part_le) dX5_tryRule_59 (by decide) (fun h59_o => ?_) (fun h59_o => ?_)
          · refine k_iinc (lv' := [(8, .int (iI (k_o + 1))), (9, .int (iI ((m_part (m_TT g_o nr lt_o) lt_o (g_o 2 r_o) i_o k_o : Nat) : Int))), (0, .ref ax), (1, .ref ag), (2, .ref a_o), (3, .ref b_o), (4, .int (iI i_o)), (5, .int (iI j_o)), (6, .int (iI L_o)), (7, .int (iI ((s_o : Nat) : Int)))]) h_o 9 dX5_tryRule_91 rfl (by decide) rfl ?_
            refine k_goto h_o 32 dX5_tryRule_94 (by decide) ?_
            refine k_sub (lv' := [(0, .ref ax), (1, .ref ag), (2, .ref a_o), (3, .ref b_o), (4, .int (iI i_o)), (5, .int (iI j_o)), (6, .int (iI L_o)), (7, .int (iI ((s_o : Nat) : Int))), (8, .int (iI (k_o + 1)))]) [2, 3, 4, 5, 6, 7, 8, 9, 0] rfl ?_
            exact ih32 (k_o + 1) s_o kq9 (by omega) (by first | exact hs1 | exact m_cap_le _) (m_sum_stay (f := (fun k_o => m_part (m_TT g_o nr lt_o) lt_o (g_o 2 r_o) i_o k_o * m_bh (m_TT g_o nr lt_o) lt_o (g_o 3 r_o) (g_o 4 r_o) (k_o + 1) j_o)) hk8.1 hs2 (by show _ * _ = 0; rw [show m_part (m_TT g_o nr lt_o) lt_o (g_o 2 r_o) i_o k_o = 0 by omega, Nat.zero_mul])) hkq10 (by omega)
          · refine k_iload h_o 8 dX5_tryRule_62 rfl ?_
            refine k_iload h_o 0 dX5_tryRule_64 rfl ?_
            refine k_aload_n h_o 1 dX5_tryRule_66 rfl rfl ?_
            refine k_aload_n h_o 2 dX5_tryRule_67 rfl rfl ?_
            refine k_aload_n h_o 3 dX5_tryRule_68 rfl rfl ?_
            refine k_aload_n h_o 4 dX5_tryRule_69 rfl rfl ?_
            refine k_iload h_o 9 dX5_tryRule_70 rfl ?_
            refine k_iconst h_o dX5_tryRule_72 ?_
            refine k_iadd h_o dX5_tryRule_73 ?_
            refine k_iload h_o 6 dX5_tryRule_74 rfl ?_
            refine k_iload h_o 7 dX5_tryRule_76 rfl ?_
            refine k_callV (As := [.ref ag, .ref a_o, .ref b_o, .int (iI (k_o + 1)), .int (iI j_o), .int (iI L_o)]) (rest := [.int (iI ((m_part (m_TT g_o nr lt_o) lt_o (g_o 2 r_o) i_o k_o : Nat) : Int)), .int (iI ((s_o : Nat) : Int))]) h_o mX5_tryBehindFirst kq_1_208 (c_X5_tryBehindFirst hl0 hNd ⟨he1, hsp, hgr, hlt, hN_o, hwf, hqq⟩ hkq10 hru hrr hwr (by omega) (by omega) (by omega) (by omega) (by omega)) 15 ((kset_ne (by decide)).trans he1) rfl rfl rfl (Nat.le_of_ble_eq_true rfl) ⟨rfl, rfl, ⟨by show 4 * d_o + 4 + 1 ≤ 4 * d_o + 5; omega, by show 8 + (10 + 11) + (114 * d_o + 116) ≤ 114 * d_o + 145; omega⟩, ⟨(Nat.le_of_ble_eq_true rfl), (Nat.le_of_ble_eq_true rfl)⟩⟩ dX5_tryRule_78 (kcI fun z78_o w78_o hp => ?_)
            obtain ⟨rfl, kq11, rfl, hkq12⟩ := hp
            refine k_imul h_o dX5_tryRule_81 ?_
            refine k_callSN (As := [.int (iI (((m_part (m_TT g_o nr lt_o) lt_o (g_o 2 r_o) i_o k_o : Nat) : Int) * ((m_cap (m_bh (m_TT g_o nr lt_o) lt_o (g_o 3 r_o) (g_o 4 r_o) (k_o + 1) j_o) : Nat) : Int)))]) (rest := [.int (iI ((s_o : Nat) : Int))]) h_o mX6_limited kq_1_212 (c_X6_limited hl0 (m_mul_rg m_part_le (m_cap_le _))) rfl rfl (Nat.le_of_ble_eq_true rfl) ⟨rfl, rfl, ⟨by show 0 + 1 ≤ 4 * d_o + 5; omega, by show 8 + (1 + 11) + (0) ≤ 114 * d_o + 145; omega⟩, ⟨(Nat.le_of_ble_eq_true rfl), (Nat.le_of_ble_eq_true rfl)⟩⟩ dX5_tryRule_82 (kcI fun z82_o w82_o hp => ?_)
            obtain ⟨rfl, rfl⟩ := hp
            refine k_top (z' := ((m_cap ((fun k_o => m_part (m_TT g_o nr lt_o) lt_o (g_o 2 r_o) i_o k_o * m_bh (m_TT g_o nr lt_o) lt_o (g_o 3 r_o) (g_o 4 r_o) (k_o + 1) j_o) k_o) : Nat) : Int)) (by rw [← Int.natCast_mul, m_lim_cap, m_cap_mulr]) ?_
            refine k_iadd h_o dX5_tryRule_85 ?_
            refine k_callSN (As := [.int (iI (((s_o : Nat) : Int) + ((m_cap ((fun k_o => m_part (m_TT g_o nr lt_o) lt_o (g_o 2 r_o) i_o k_o * m_bh (m_TT g_o nr lt_o) lt_o (g_o 3 r_o) (g_o 4 r_o) (k_o + 1) j_o) k_o) : Nat) : Int)))]) (rest := []) h_o mX6_limited kq_1_212 (c_X6_limited hl0 (m_add_rg hs1 (m_cap_le _))) rfl rfl (Nat.le_of_ble_eq_true rfl) ⟨rfl, rfl, ⟨by show 0 + 1 ≤ 4 * d_o + 5; omega, by show 8 + (1 + 11) + (0) ≤ 114 * d_o + 145; omega⟩, ⟨(Nat.le_of_ble_eq_true rfl), (Nat.le_of_ble_eq_true rfl)⟩⟩ dX5_tryRule_86 (kcI fun z86_o w86_o hp => ?_)
            obtain ⟨rfl, rfl⟩ := hp
            refine k_top (z' := ((m_cap (s_o + (fun k_o => m_part (m_TT g_o nr lt_o) lt_o (g_o 2 r_o) i_o k_o * m_bh (m_TT g_o nr lt_o) lt_o (g_o 3 r_o) (g_o 4 r_o) (k_o + 1) j_o) k_o) : Nat) : Int)) (by rw [← Int.natCast_add, m_lim_cap, m_cap_addr]) ?_
            refine k_istore (lv' := [(7, .int (iI ((m_cap (s_o + (fun k_o => m_part (m_TT g_o nr lt_o) lt_o (g_o 2 r_o) i_o k_o * m_bh (m_TT g_o nr lt_o) lt_o (g_o 3 r_o) (g_o 4 r_o) (k_o + 1) j_o) k_o) : Nat) : Int))), (9, .int (iI ((m_part (m_TT g_o nr lt_o) lt_o (g_o 2 r_o) i_o k_o : Nat) : Int))), (0, .ref ax), (1, .ref ag), (2, .ref a_o), (3, .ref b_o), (4, .int (iI i_o)), (5, .int (iI j_o)), (6, .int (iI L_o)), (8, .int (iI k_o))]) h_o dX5_tryRule_89 (by decide) rfl ?_
            refine k_iinc (lv' := [(8, .int (iI (k_o + 1))), (7, .int (iI ((m_cap (s_o + (fun k_o => m_part (m_TT g_o nr lt_o) lt_o (g_o 2 r_o) i_o k_o * m_bh (m_TT g_o nr lt_o) lt_o (g_o 3 r_o) (g_o 4 r_o) (k_o + 1) j_o) k_o) : Nat) : Int))), (9, .int (iI ((m_part (m_TT g_o nr lt_o) lt_o (g_o 2 r_o) i_o k_o : Nat) : Int))), (0, .ref ax), (1, .ref ag), (2, .ref a_o), (3, .ref b_o), (4, .int (iI i_o)), (5, .int (iI j_o)), (6, .int (iI L_o))]) h_o 9 dX5_tryRule_91 rfl (by decide) rfl ?_
            refine k_goto h_o 32 dX5_tryRule_94 (by decide) ?_
            refine k_sub (lv' := [(0, .ref ax), (1, .ref ag), (2, .ref a_o), (3, .ref b_o), (4, .int (iI i_o)), (5, .int (iI j_o)), (6, .int (iI L_o)), (7, .int (iI ((m_cap (s_o + (fun k_o => m_part (m_TT g_o nr lt_o) lt_o (g_o 2 r_o) i_o k_o * m_bh (m_TT g_o nr lt_o) lt_o (g_o 3 r_o) (g_o 4 r_o) (k_o + 1) j_o) k_o) : Nat) : Int))), (8, .int (iI (k_o + 1)))]) [3, 4, 5, 6, 7, 8, 9, 1, 0] rfl ?_
            exact ih32 (k_o + 1) (m_cap (s_o + (fun k_o => m_part (m_TT g_o nr lt_o) lt_o (g_o 2 r_o) i_o k_o * m_bh (m_TT g_o nr lt_o) lt_o (g_o 3 r_o) (g_o 4 r_o) (k_o + 1) j_o) k_o)) kq11 (by omega) (by first | exact hs1 | exact m_cap_le _) (m_sum_step (f := (fun k_o => m_part (m_TT g_o nr lt_o) lt_o (g_o 2 r_o) i_o k_o * m_bh (m_TT g_o nr lt_o) lt_o (g_o 3 r_o) (g_o 4 r_o) (k_o + 1) j_o)) hk8.1 hs2) hkq12 (by omega)
    refine k_sub (lv' := [(0, .ref ax), (1, .ref ag), (2, .ref a_o), (3, .ref b_o), (4, .int (iI i_o)), (5, .int (iI j_o)), (6, .int (iI L_o)), (7, .int (iI 0)), (8, .int (iI i_o))]) [2, 3, 4, 5, 6, 7, 8, 1, 0] rfl ?_
    exact L32 ((j_o - i_o : Int).toNat + 1) i_o 0 kn (by omega) (by omega) (by rw [m_S_self (by omega)]; rfl) hk (by omega)
  · refine k_aload_n h_o 0 dX5_tryRule_8 rfl rfl ?_
    refine k_aload_n h_o 1 dX5_tryRule_9 rfl rfl ?_
    refine k_aload_n h_o 2 dX5_tryRule_10 rfl rfl ?_
    refine k_aload_n h_o 3 dX5_tryRule_11 rfl rfl ?_
    refine k_get h_o (100 + r_o) kf_X5_60 ((kset_ne (by omega)).trans hru) rfl dX5_tryRule_12 ?_
    refine k_iload h_o 4 dX5_tryRule_15 rfl ?_
    refine k_iload h_o 5 dX5_tryRule_17 rfl ?_
    refine k_iload h_o 6 dX5_tryRule_19 rfl ?_
    refine k_callV (As := [.ref ag, .ref a_o, .int (iI (g_o 2 r_o)), .int (iI i_o), .int (iI j_o), .int (iI L_o)]) (rest := []) h_o mX5_tryPart kq_1_200 (c_X5_tryPart hl0 hNd ⟨he1, hsp, hgr, hlt, hN_o, hwf, hqq⟩ hk (by omega) (by omega) (by omega) (fun hnl => by have q1 := m_ms_eq (nm := g_o 2 r_o) (i := i_o) (j := j_o) (by omega) (by omega); omega) (by omega)) 15 ((kset_ne (by decide)).trans he1) rfl rfl rfl (Nat.le_of_ble_eq_true rfl) ⟨rfl, rfl, ⟨by show 4 * d_o + 3 + 1 ≤ 4 * d_o + 5; omega, by show 8 + (7 + 11) + (114 * d_o + 90) ≤ 114 * d_o + 145; omega⟩, ⟨(Nat.le_of_ble_eq_true rfl), (Nat.le_of_ble_eq_true rfl)⟩⟩ dX5_tryRule_21 (kcI fun z21_o w21_o hp => ?_)
    obtain ⟨rfl, kq13, rfl, hkq14⟩ := hp
    exact k_iret h_o hr rfl (⟨_, rfl, (by unfold m_wy; rw [if_pos (by omega), m_cap_id m_part_le]), kq13, rfl, hkq14⟩) (by omega) (by omega) dX5_tryRule_24

set_option maxHeartbeats 4000000 in
set_option maxRecDepth 100000 in
theorem c_X5_tryNameS {E_o : kE} {l_o : Launch} (hl0 : l_o.stackTraces = false) {d_o : Nat} (hNd : kTNm E_o l_o d_o) {w_o : kW} {ax ak q_o a_o la na : Nat} {lt_o : Nat → Int} {N_o : Nat → Nat} {c_o : Int} {ag ap nr : Nat} {ra : Nat → Nat} {g_o : Nat → Nat → Int} {kn : Nat → Int} {nm i_o j_o L_o : Int} (hE : kTrE w_o ax ak q_o a_o la na lt_o N_o c_o ag ap nr ra g_o) (hk : kTk g_o nr lt_o kn) (hn : m_isN nm) (hi_o : 0 ≤ i_o ∧ i_o ≤ j_o) (hj : j_o < 10) (hd : m_ms nm i_o j_o ≤ d_o + 1) (hL : 1 ≤ L_o ∧ L_o + (m_ms nm i_o j_o : Int) ≤ 26) : kM E_o l_o yX5_tryName (.code yX5_tryName cX5_tryName 11 (some .int) :: kAL) { frames := 4 * (d_o + 1) + 2, cells := 0, slots := 0, locals := 114 * (d_o + 1) + 60 } 0 0 [.ref ax, .ref ag, .ref a_o, .int (iI nm), .int (iI i_o), .int (iI j_o), .int (iI L_o)] (kset w_o 16 ak (ai 500 kn)) (pI (fun z_o w2_o => ((m_TT g_o nr lt_o nm i_o j_o : Nat) : Int) = z_o ∧ ∃ kn2 : Nat → Int, (kset w_o 16 ak (ai 500 kn2)) = w2_o ∧ kTk g_o nr lt_o kn2)) := by
  refine kM_of hl0 (by decide +kernel) (Nat.le_of_ble_eq_true rfl) ?_
  intro X_o hXl h_o hr hin
  subst hXl
  obtain ⟨he1, hsp, hgr, hlt, hN_o, hwf, hqq⟩ := hE
  have hspA : ∀ kn : Nat → Int, (kSp (kset w_o 16 ak (ai 500 kn)) q_o a_o la na lt_o N_o c_o) := fun kn => hsp.ne (by omega) (by omega) (by omega)
  have hgrA : ∀ kn : Nat → Int, (kGr (kset w_o 16 ak (ai 500 kn)) ag ap nr ra g_o) := fun kn => hgr.ne (by decide) (by decide) (by decide)
  have hnr := hgr.2.2.2
  have hms := m_ms_eq hn hi_o.2
  have hkv := hk nm i_o j_o hn hi_o.1 hi_o.2 hj
  have hTl := m_TT_le (g := g_o) (nr := nr) (row := lt_o) (nm := nm) (i := i_o) (j := j_o)
  show kG E_o X_o 11 0 0 (kset w_o 16 ak (ai 500 kn)) 0 [(0, .ref ax), (1, .ref ag), (2, .ref a_o), (3, .int (iI nm)), (4, .int (iI i_o)), (5, .int (iI j_o)), (6, .int (iI L_o))] []
  refine k_iload_n h_o 3 dX5_tryName_0 rfl rfl ?_
  refine k_iload h_o 4 dX5_tryName_1 rfl ?_
  refine k_iload h_o 5 dX5_tryName_3 rfl ?_
  refine k_callSN (As := [.int (iI nm), .int (iI i_o), .int (iI j_o)]) (rest := []) h_o mX6_spot kq_1_192 (c_X6_spot hl0 (by omega) (by omega) (by omega)) rfl rfl (Nat.le_of_ble_eq_true rfl) ⟨rfl, rfl, ⟨by show 0 + 1 ≤ 4 * (d_o + 1) + 2; omega, by show 8 + (3 + 11) + (0) ≤ 114 * (d_o + 1) + 60; omega⟩, ⟨(Nat.le_of_ble_eq_true rfl), (Nat.le_of_ble_eq_true rfl)⟩⟩ dX5_tryName_5 (kcI fun z5_o w5_o hp => ?_)
  obtain ⟨rfl, rfl⟩ := hp
  refine k_istore (lv' := [(7, .int (iI (((nm - 10) * 10 + i_o) * 10 + j_o))), (0, .ref ax), (1, .ref ag), (2, .ref a_o), (3, .int (iI nm)), (4, .int (iI i_o)), (5, .int (iI j_o)), (6, .int (iI L_o))]) h_o dX5_tryName_8 (by decide) rfl ?_
  refine k_iload h_o 0 dX5_tryName_10 rfl ?_
  refine k_iflt h_o 32 (by omega) dX5_tryName_12 (by decide) (fun h12_o => ?_) (fun h12_o => ?_)
  · exfalso; omega
  · refine k_iload h_o 0 dX5_tryName_15 rfl ?_
    refine k_aload_n h_o 1 dX5_tryName_17 rfl rfl ?_
    refine k_get h_o 15 kf_X5_9 ((kset_ne (by decide)).trans he1) rfl dX5_tryName_18 ?_
    refine k_alen h_o 16 kset_eq rfl dX5_tryName_21 ?_
    show kG E_o X_o 11 _ _ _ _ _ (.int (iI 500) :: _)
    refine k_icmp_ge h_o 32 (by omega) (by decide) dX5_tryName_22 (by decide) (fun h22_o => ?_) (fun h22_o => ?_)
    · exfalso; omega
    · refine k_iload h_o 7 dX5_tryName_25 rfl ?_
      refine k_bipush h_o dX5_tryName_27 (by decide) ?_
      refine k_icmp_le h_o 34 (by omega) (by decide) dX5_tryName_29 (by decide) (fun h29_o => ?_) (fun h29_o => ?_)
      · refine k_aload_n h_o 1 dX5_tryName_34 rfl rfl ?_
        refine k_get h_o 15 kf_X5_9 ((kset_ne (by decide)).trans he1) rfl dX5_tryName_35 ?_
        refine k_iload h_o 0 dX5_tryName_38 rfl ?_
        refine k_iald h_o 16 kset_eq (by omega) (by decide) dX5_tryName_40 ?_
        refine k_iconst h_o dX5_tryName_41 ?_
        refine k_icmp_eq h_o 53 (by omega) (by decide) dX5_tryName_42 (by decide) (fun h42_o => ?_) (fun h42_o => ?_)
        · refine k_iconst h_o dX5_tryName_53 ?_
          refine k_istore (lv' := [(8, .int (iI 0)), (7, .int (iI (((nm - 10) * 10 + i_o) * 10 + j_o))), (0, .ref ax), (1, .ref ag), (2, .ref a_o), (3, .int (iI nm)), (4, .int (iI i_o)), (5, .int (iI j_o)), (6, .int (iI L_o))]) h_o dX5_tryName_54 (by decide) rfl ?_
          refine k_iconst h_o dX5_tryName_56 ?_
          refine k_istore (lv' := [(9, .int (iI 0)), (8, .int (iI 0)), (7, .int (iI (((nm - 10) * 10 + i_o) * 10 + j_o))), (0, .ref ax), (1, .ref ag), (2, .ref a_o), (3, .int (iI nm)), (4, .int (iI i_o)), (5, .int (iI j_o)), (6, .int (iI L_o))]) h_o dX5_tryName_57 (by decide) rfl ?_
          have L59 : ∀ (mm : Nat) (r_o : Int) (s_o : Nat) (kn3 : Nat → Int), (0 ≤ r_o ∧ r_o ≤ (nr : Int)) → (s_o ≤ 1000) → (s_o = m_cap (m_sn (m_rs (m_TT g_o nr lt_o) lt_o g_o nm i_o j_o) r_o.toNat)) → (kTk g_o nr lt_o kn3) → (nr : Int) - r_o < (mm : Int) → kG E_o X_o 11 0 0 (kset w_o 16 ak (ai 500 kn3)) 59 [(0, .ref ax), (1, .ref ag), (2, .ref a_o), (3, .int (iI nm)), (4, .int (iI i_o)), (5, .int (iI j_o)), (6, .int (iI L_o)), (7, .int (iI (((nm - 10) * 10 + i_o) * 10 + j_o))), (8, .int (iI ((s_o : Nat) : Int))), (9, .int (iI r_o))] [] := by
            intro mm
            induction mm with
            | zero =>
              intro r_o s_o kn3 hr2 hs1 hs2 hk3 hm_o
              exfalso; omega
            | succ mm ih59 =>
              intro r_o s_o kn3 hr2 hs1 hs2 hk3 hm_o
              refine k_iload h_o 9 dX5_tryName_59 rfl ?_
              refine k_aload_n h_o 1 dX5_tryName_61 rfl rfl ?_
              refine k_get h_o 1 kf_X5_35 (hgrA kn3).1 rfl dX5_tryName_62 ?_
              refine k_icmp_ge h_o 118 (by omega) (by omega) dX5_tryName_65 (by decide) (fun h65_o => ?_) (fun h65_o => ?_)
              · have htrue : (s_o = m_TT g_o nr lt_o nm i_o j_o) := by rw [hs2, show r_o.toNat = nr by omega]; exact (m_TT_eq (fun x_o hx => (hwf x_o hx).1) hn hi_o.2 (by omega)).symm
                refine k_aload_n h_o 0 dX5_tryName_118 rfl rfl ?_
                refine k_get h_o 15 kf_X5_9 ((kset_ne (by decide)).trans he1) rfl dX5_tryName_119 ?_
                refine k_iload h_o 7 dX5_tryName_122 rfl ?_
                refine k_iload h_o 8 dX5_tryName_124 rfl ?_
                refine k_iast h_o 16 kset_eq (by omega) (by decide) dX5_tryName_126 ?_
                refine k_world (w' := (kset w_o 16 ak (ai 500 (kup kn3 (((nm - 10) * 10 + i_o) * 10 + j_o).toNat ((s_o : Nat) : Int))))) kset_kset ?_
                refine k_iload h_o 8 dX5_tryName_127 rfl ?_
                exact k_iret h_o hr rfl (⟨_, rfl, (by rw [htrue]), kup kn3 (((nm - 10) * 10 + i_o) * 10 + j_o).toNat ((s_o : Nat) : Int), rfl, hk3.up hn hi_o hj htrue⟩) (by omega) (by omega) dX5_tryName_129
              · refine k_aload_n h_o 1 dX5_tryName_68 rfl rfl ?_
                refine k_iload h_o 9 dX5_tryName_69 rfl ?_
                refine k_callV (As := [.int (iI r_o)]) (rest := []) h_o mX0_liveRule kq_1_195 (c_X0_liveRule hl0 (hgrA kn3) hwf (by omega)) 1 (hgrA kn3).1 rfl rfl rfl (Nat.le_of_ble_eq_true rfl) ⟨rfl, rfl, ⟨by show 0 + 1 ≤ 4 * (d_o + 1) + 2; omega, by show 8 + (3 + 11) + (0) ≤ 114 * (d_o + 1) + 60; omega⟩, ⟨(Nat.le_of_ble_eq_true rfl), (Nat.le_of_ble_eq_true rfl)⟩⟩ dX5_tryName_71 (kcQ fun z71_o w71_o hp => ?_)
                obtain ⟨hp, rfl⟩ := hp
                rcases hp with ⟨hlv, ho⟩ | ⟨hlv, ho⟩
                · refine k_topQ ho ?_
                  have hrw := (hwf r_o.toNat (by have := hlv.2.1; omega)).1
                  have hrg1 := hrw.1
                  refine k_astore (lv' := [(10, .ref (ra r_o.toNat)), (0, .ref ax), (1, .ref ag), (2, .ref a_o), (3, .int (iI nm)), (4, .int (iI i_o)), (5, .int (iI j_o)), (6, .int (iI L_o)), (7, .int (iI (((nm - 10) * 10 + i_o) * 10 + j_o))), (8, .int (iI ((s_o : Nat) : Int))), (9, .int (iI r_o))]) h_o dX5_tryName_74 (by decide) rfl ?_
                  refine k_aload h_o 0 dX5_tryName_76 rfl ?_
                  refine k_ifnull h_o dX5_tryName_78 ?_
                  refine k_aload h_o 0 dX5_tryName_81 rfl ?_
                  refine k_get h_o (100 + r_o.toNat) kf_X5_44 ((hgrA kn3).2.2.1 r_o.toNat (by have := hlv.1; have := hlv.2.1; omega)) rfl dX5_tryName_83 ?_
                  refine k_iload_n h_o 4 dX5_tryName_86 rfl rfl ?_
                  refine k_icmp_ne h_o 112 (by omega) (by omega) dX5_tryName_87 (by decide) (fun h87_o => ?_) (fun h87_o => ?_)
                  · refine k_iinc (lv' := [(9, .int (iI (r_o + 1))), (10, .ref (ra r_o.toNat)), (0, .ref ax), (1, .ref ag), (2, .ref a_o), (3, .int (iI nm)), (4, .int (iI i_o)), (5, .int (iI j_o)), (6, .int (iI L_o)), (7, .int (iI (((nm - 10) * 10 + i_o) * 10 + j_o))), (8, .int (iI ((s_o : Nat) : Int)))]) h_o 10 dX5_tryName_112 rfl (by decide) rfl ?_
                    refine k_goto h_o 59 dX5_tryName_115 (by decide) ?_
                    refine k_sub (lv' := [(0, .ref ax), (1, .ref ag), (2, .ref a_o), (3, .int (iI nm)), (4, .int (iI i_o)), (5, .int (iI j_o)), (6, .int (iI L_o)), (7, .int (iI (((nm - 10) * 10 + i_o) * 10 + j_o))), (8, .int (iI ((s_o : Nat) : Int))), (9, .int (iI (r_o + 1)))]) [2, 3, 4, 5, 6, 7, 8, 9, 10, 0] rfl ?_
                    exact ih59 (r_o + 1) s_o kn3 (by omega) (by first | exact hs1 | exact m_cap_le _) (m_rs_stay hr2.1 hs2 (m_rs_dead (fun q_o => by have q1 := q_o.1; have q2 := q_o.2; first | exact hlv ⟨by omega, by omega, q1⟩ | omega))) hk3 (by omega)
                  · refine k_iload h_o 9 dX5_tryName_90 rfl ?_
                    refine k_aload_n h_o 1 dX5_tryName_92 rfl rfl ?_
                    refine k_aload_n h_o 2 dX5_tryName_93 rfl rfl ?_
                    refine k_aload_n h_o 3 dX5_tryName_94 rfl rfl ?_
                    refine k_aload h_o 0 dX5_tryName_95 rfl ?_
                    refine k_iload h_o 5 dX5_tryName_97 rfl ?_
                    refine k_iload h_o 6 dX5_tryName_99 rfl ?_
                    refine k_iload h_o 7 dX5_tryName_101 rfl ?_
                    refine k_callV (As := [.ref ag, .ref a_o, .ref (ra r_o.toNat), .int (iI i_o), .int (iI j_o), .int (iI L_o)]) (rest := [.int (iI ((s_o : Nat) : Int))]) h_o mX5_tryRule kq_1_196 (c_X5_tryRule hl0 hNd ⟨he1, hsp, hgr, hlt, hN_o, hwf, hqq⟩ hk3 (hgr.2.2.1 r_o.toNat (by omega)) (by omega) hrw hi_o hj (by rw [show g_o 1 r_o.toNat = nm by omega]; omega) (by rw [show g_o 1 r_o.toNat = nm by omega]; omega)) 15 ((kset_ne (by decide)).trans he1) rfl rfl rfl (Nat.le_of_ble_eq_true rfl) ⟨rfl, rfl, ⟨by show 4 * d_o + 5 + 1 ≤ 4 * (d_o + 1) + 2; omega, by show 8 + (10 + 11) + (114 * d_o + 145) ≤ 114 * (d_o + 1) + 60; omega⟩, ⟨(Nat.le_of_ble_eq_true rfl), (Nat.le_of_ble_eq_true rfl)⟩⟩ dX5_tryName_103 (kcI fun z103_o w103_o hp => ?_)
                    obtain ⟨rfl, kq15, rfl, hkq16⟩ := hp
                    refine k_iadd h_o dX5_tryName_106 ?_
                    refine k_callSN (As := [.int (iI (((s_o : Nat) : Int) + ((m_cap (m_wy (m_TT g_o nr lt_o) lt_o (g_o 2 r_o.toNat) (g_o 3 r_o.toNat) (g_o 4 r_o.toNat) i_o j_o) : Nat) : Int)))]) (rest := []) h_o mX6_limited kq_1_212 (c_X6_limited hl0 (m_add_rg hs1 (m_cap_le _))) rfl rfl (Nat.le_of_ble_eq_true rfl) ⟨rfl, rfl, ⟨by show 0 + 1 ≤ 4 * (d_o + 1) + 2; omega, by show 8 + (1 + 11) + (0) ≤ 114 * (d_o + 1) + 60; omega⟩, ⟨(Nat.le_of_ble_eq_true rfl), (Nat.le_of_ble_eq_true rfl)⟩⟩ dX5_tryName_107 (kcI fun z107_o w107_o hp => ?_)
                    obtain ⟨rfl, rfl⟩ := hp
                    refine k_top (z' := ((m_cap (s_o + m_wy (m_TT g_o nr lt_o) lt_o (g_o 2 r_o.toNat) (g_o 3 r_o.toNat) (g_o 4 r_o.toNat) i_o j_o) : Nat) : Int)) (by rw [← Int.natCast_add, m_lim_cap, m_cap_addr]) ?_
                    refine k_istore (lv' := [(8, .int (iI ((m_cap (s_o + m_wy (m_TT g_o nr lt_o) lt_o (g_o 2 r_o.toNat) (g_o 3 r_o.toNat) (g_o 4 r_o.toNat) i_o j_o) : Nat) : Int))), (10, .ref (ra r_o.toNat)), (0, .ref ax), (1, .ref ag), (2, .ref a_o), (3, .int (iI nm)), (4, .int (iI i_o)), (5, .int (iI j_o)), (6, .int (iI L_o)), (7, .int (iI (((nm - 10) * 10 + i_o) * 10 + j_o))), (9, .int (iI r_o))]) h_o dX5_tryName_110 (by decide) rfl ?_
                    refine k_iinc (lv' := [(9, .int (iI (r_o + 1))), (8, .int (iI ((m_cap (s_o + m_wy (m_TT g_o nr lt_o) lt_o (g_o 2 r_o.toNat) (g_o 3 r_o.toNat) (g_o 4 r_o.toNat) i_o j_o) : Nat) : Int))), (10, .ref (ra r_o.toNat)), (0, .ref ax), (1, .ref ag), (2, .ref a_o), (3, .int (iI nm)), (4, .int (iI i_o)), (5, .int (iI j_o)), (6, .int (iI L_o)), (7, .int (iI (((nm - 10) * 10 + i_o) * 10 + j_o)))]) h_o 10 dX5_tryName_112 rfl (by decide) rfl ?_
                    refine k_goto h_o 59 dX5_tryName_115 (by decide) ?_
                    refine k_sub (lv' := [(0, .ref ax), (1, .ref ag), (2, .ref a_o), (3, .int (iI nm)), (4, .int (iI i_o)), (5, .int (iI j_o)), (6, .int (iI L_o)), (7, .int (iI (((nm - 10) * 10 + i_o) * 10 + j_o))), (8, .int (iI ((m_cap (s_o + m_wy (m_TT g_o nr lt_o) lt_o (g_o 2 r_o.toNat) (g_o 3 r_o.toNat) (g_o 4 r_o.toNat) i_o j_o) : Nat) : Int))), (9, .int (iI (r_o + 1)))]) [3, 4, 5, 6, 7, 8, 9, 10, 1, 0] rfl ?_
                    exact ih59 (r_o + 1) (m_cap (s_o + m_wy (m_TT g_o nr lt_o) lt_o (g_o 2 r_o.toNat) (g_o 3 r_o.toNat) (g_o 4 r_o.toNat) i_o j_o)) kq15 (by omega) (by first | exact hs1 | exact m_cap_le _) (m_rs_step hr2.1 hs2 (m_rs_live ⟨hlv.2.2, by omega⟩).symm) hkq16 (by omega)
                · refine k_topN ho ?_
                  refine k_astoreN (lv' := [(10, .null), (0, .ref ax), (1, .ref ag), (2, .ref a_o), (3, .int (iI nm)), (4, .int (iI i_o)), (5, .int (iI j_o)), (6, .int (iI L_o)), (7, .int (iI (((nm - 10) * 10 + i_o) * 10 + j_o))), (8, .int (iI ((s_o : Nat) : Int))), (9, .int (iI r_o))]) h_o dX5_tryName_74 (by decide) rfl ?_
                  refine k_aloadN h_o 0 dX5_tryName_76 rfl ?_
                  refine k_ifnullN h_o 112 dX5_tryName_78 (by decide) ?_
                  refine k_iinc (lv' := [(9, .int (iI (r_o + 1))), (10, .null), (0, .ref ax), (1, .ref ag), (2, .ref a_o), (3, .int (iI nm)), (4, .int (iI i_o)), (5, .int (iI j_o)), (6, .int (iI L_o)), (7, .int (iI (((nm - 10) * 10 + i_o) * 10 + j_o))), (8, .int (iI ((s_o : Nat) : Int)))]) h_o 10 dX5_tryName_112 rfl (by decide) rfl ?_
                  refine k_goto h_o 59 dX5_tryName_115 (by decide) ?_
                  refine k_sub (lv' := [(0, .ref ax), (1, .ref ag), (2, .ref a_o), (3, .int (iI nm)), (4, .int (iI i_o)), (5, .int (iI j_o)), (6, .int (iI L_o)), (7, .int (iI (((nm - 10) * 10 + i_o) * 10 + j_o))), (8, .int (iI ((s_o : Nat) : Int))), (9, .int (iI (r_o + 1)))]) [2, 3, 4, 5, 6, 7, 8, 9, 10, 0] rfl ?_
                  exact ih59 (r_o + 1) s_o kn3 (by omega) (by first | exact hs1 | exact m_cap_le _) (m_rs_stay hr2.1 hs2 (m_rs_dead (fun q_o => by have q1 := q_o.1; have q2 := q_o.2; first | exact hlv ⟨by omega, by omega, q1⟩ | omega))) hk3 (by omega)
          refine k_sub (lv' := [(0, .ref ax), (1, .ref ag), (2, .ref a_o), (3, .int (iI nm)), (4, .int (iI i_o)), (5, .int (iI j_o)), (6, .int (iI L_o)), (7, .int (iI (((nm - 10) * 10 + i_o) * 10 + j_o))), (8, .int (iI 0)), (9, .int (iI 0))]) [3, 4, 5, 6, 7, 8, 9, 2, 1, 0] rfl ?_
          exact L59 (((nr : Int) - 0 : Int).toNat + 1) 0 0 kn (by omega) (by omega) (by rfl) hk (by omega)
        · refine k_aload_n h_o 1 dX5_tryName_45 rfl rfl ?_
          refine k_get h_o 15 kf_X5_9 ((kset_ne (by decide)).trans he1) rfl dX5_tryName_46 ?_
          refine k_iload h_o 0 dX5_tryName_49 rfl ?_
          refine k_iald h_o 16 kset_eq (by omega) (by decide) dX5_tryName_51 ?_
          exact k_iret h_o hr rfl (⟨_, rfl, (by omega), kn, rfl, hk⟩) (by omega) (by omega) dX5_tryName_52
      · exfalso; omega

theorem c_X5_tryName {E_o : kE} {l_o : Launch} (hl0 : l_o.stackTraces = false) : ∀ d_o : Nat, kTNm E_o l_o d_o
  | 0 => fun hE hk hn hi_o hj hd hL => by exfalso; have hq := m_ms_eq hn hi_o.2; omega
  | d_o + 1 => fun hE hk hn hi_o hj hd hL => c_X5_tryNameS hl0 (c_X5_tryName hl0 d_o) hE hk hn hi_o hj hd hL

set_option maxHeartbeats 4000000 in
set_option maxRecDepth 100000 in
theorem c_X5_treesOfAll {E_o : kE} {l_o : Launch} (hl0 : l_o.stackTraces = false) {w_o : kW} {ax ak q_o a_o la na : Nat} {lt_o : Nat → Int} {N_o : Nat → Nat} {c_o : Int} {ag ap nr : Nat} {ra : Nat → Nat} {g_o : Nat → Nat → Int} {kn : Nat → Int} (hE : kTrE w_o ax ak q_o a_o la na lt_o N_o c_o ag ap nr ra g_o) (hkn : w_o 16 = some (ak, ai 500 kn)) (hc_o : 1 ≤ c_o ∧ c_o ≤ 5) : kM E_o l_o yX5_treesOfAll (.code yX5_treesOfAll cX5_treesOfAll 3 (some .int) :: kAL) { frames := 103, cells := 0, slots := 0, locals := 2940 } 0 0 [.ref ax, .ref ag, .ref a_o] w_o (pI (fun z_o w2_o => ((m_TT g_o nr lt_o 10 0 (c_o - 1) : Nat) : Int) = z_o ∧ ∃ kn2 : Nat → Int, (kset w_o 16 ak (ai 500 kn2)) = w2_o)) := by
  refine kM_of hl0 (by decide +kernel) (Nat.le_of_ble_eq_true rfl) ?_
  intro X_o hXl h_o hr hin
  subst hXl
  obtain ⟨he1, hsp, hgr, hlt, hN_o, hwf, hqq⟩ := hE
  show kG E_o X_o 3 0 0 w_o 0 [(0, .ref ax), (1, .ref ag), (2, .ref a_o)] []
  refine k_aload_n h_o 0 dX5_treesOfAll_0 rfl rfl ?_
  refine k_get h_o 15 kf_X5_9 he1 rfl dX5_treesOfAll_1 ?_
  refine k_iconst h_o dX5_treesOfAll_4 ?_
  refine k_callS (As := [.ref ak, .int (iI (-1))]) (rest := []) h_o mJ7_fill_53178 kq_1_185 (c_J7_fill_53178 hl0 hkn (by decide)) rfl rfl (Nat.le_of_ble_eq_true rfl) ⟨rfl, rfl, ⟨(Nat.le_of_ble_eq_true rfl), (Nat.le_of_ble_eq_true rfl)⟩, ⟨(Nat.le_of_ble_eq_true rfl), (Nat.le_of_ble_eq_true rfl)⟩⟩ dX5_treesOfAll_5 (kcV fun w5_o hp => ?_)
  subst hp
  refine k_aload_n h_o 0 dX5_treesOfAll_8 rfl rfl ?_
  refine k_aload_n h_o 1 dX5_treesOfAll_9 rfl rfl ?_
  refine k_aload_n h_o 2 dX5_treesOfAll_10 rfl rfl ?_
  refine k_bipush h_o dX5_treesOfAll_11 (by decide) ?_
  refine k_iconst h_o dX5_treesOfAll_13 ?_
  refine k_aload_n h_o 2 dX5_treesOfAll_14 rfl rfl ?_
  refine k_get h_o q_o kf_X5_21 ((kset_ne (by omega)).trans hsp.1) rfl dX5_treesOfAll_15 ?_
  refine k_iconst h_o dX5_treesOfAll_18 ?_
  refine k_isub h_o dX5_treesOfAll_19 ?_
  refine k_iconst h_o dX5_treesOfAll_20 ?_
  refine k_callV (As := [.ref ag, .ref a_o, .int (iI 10), .int (iI 0), .int (iI (c_o - 1)), .int (iI 1)]) (rest := []) h_o mX5_tryName kq_1_188 ((c_X5_tryName hl0 25) ⟨he1, hsp, hgr, hlt, hN_o, hwf, hqq⟩ kTk.fresh (by omega) (by omega) (by omega) (by unfold m_ms; omega) (by unfold m_ms; omega)) 15 ((kset_ne (by decide)).trans he1) rfl rfl rfl (Nat.le_of_ble_eq_true rfl) ⟨rfl, rfl, ⟨(Nat.le_of_ble_eq_true rfl), (Nat.le_of_ble_eq_true rfl)⟩, ⟨(Nat.le_of_ble_eq_true rfl), (Nat.le_of_ble_eq_true rfl)⟩⟩ dX5_treesOfAll_21 (kcI fun z21_o w21_o hp => ?_)
  obtain ⟨rfl, kn2, rfl, hk2⟩ := hp
  exact k_iret h_o hr rfl (⟨_, rfl, rfl, kn2, rfl⟩) (by omega) (by omega) dX5_treesOfAll_24
