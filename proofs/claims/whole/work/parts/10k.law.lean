set_option maxHeartbeats 4000000 in
set_option maxRecDepth 100000 in
theorem law_loop {E_o : kE} {X_o : kX} {b_o L_o : Nat} {xs : Nat → Int32} (hl0 : (kXl X_o).stackTraces = false) (h_o : kOk E_o X_o code RL 9 room_1) (hNc : kNc (kXs X_o)) (hsr : kSr E_o X_o b_o L_o xs) (hL : L_o ≤ 2560) (hEND : ∀ (k_o n_o : Nat) (w_o : kW) (lv : List (Nat × Value)), k_o ≤ 603072 → n_o ≤ 7215210 → kG E_o X_o 9 k_o n_o w_o 1854 lv [.int (iI 1)]) {a0 b0 aO aD : Nat} : ∀ (mm : Nat) (i_o : Int) (w_o : kW) (k_o n_o : Nat), 0 ≤ i_o → i_o ≤ 2565 → (L_o : Int) - i_o < (mm : Int) → k_o + 7 * mm ≤ 603072 → n_o + 630 * mm ≤ 7215210 → kLI w_o a0 b0 aO aD → kG E_o X_o 9 k_o n_o w_o 28 [(0, .ref b_o), (1, .ref a0), (2, .ref b0), (3, .ref aO), (4, .ref aD), (5, .int (iI i_o))] [] := by
  intro mm
  induction mm with
  | zero =>
    intro i_o w_o k_o n_o h0_o h1_o h2_o h3_o h4_o hI
    refine k_iload h_o 5 dL_law_28 rfl ?_
    refine k_aload_n h_o 0 dL_law_30 rfl rfl ?_
    refine k_slen h_o hsr dL_law_31 ?_
    refine k_iconst h_o dL_law_32 ?_
    refine k_isub h_o dL_law_33 ?_
    refine k_icmp_gt h_o 1853 (by omega) (by omega) dL_law_34 (by decide) (fun h34_o => ?_) (fun h34_o => ?_)
    · refine k_iconst h_o dL_law_1853 ?_
      exact hEND _ _ _ _ (by omega) (by omega)
    · exfalso; omega
  | succ mm ih_o =>
    intro i_o w_o k_o n_o h0_o h1_o h2_o h3_o h4_o hI
    have NEXT : ∀ w2_o : kW, kLI w2_o a0 b0 aO aD → i_o + 5 ≤ (L_o : Int) → kG E_o X_o 9 (k_o + 7) (n_o + 630) w2_o 1847 [(0, .ref b_o), (1, .ref a0), (2, .ref b0), (3, .ref aO), (4, .ref aD), (5, .int (iI i_o))] [] := by
      intro w2_o hI2 hiL
      refine k_iinc (lv' := [(5, .int (iI (i_o + 5))), (0, .ref b_o), (1, .ref a0), (2, .ref b0), (3, .ref aO), (4, .ref aD)]) h_o 5 dL_law_1847 rfl (by decide) rfl ?_
      refine k_goto h_o 28 dL_law_1850 (by decide) ?_
      refine k_sub (lv' := [(0, .ref b_o), (1, .ref a0), (2, .ref b0), (3, .ref aO), (4, .ref aD), (5, .int (iI (i_o + 5)))]) [1, 2, 3, 4, 5, 0] rfl ?_
      exact ih_o (i_o + 5) w2_o (k_o + 7) (n_o + 630) (by omega) (by omega) (by omega) (by omega) (by omega) hI2
    obtain ⟨x0, hx0⟩ : ∃ z_o, z_o = (xs i_o.toNat).toInt := ⟨_, rfl⟩
    have hr0 : -2147483648 ≤ x0 ∧ x0 < 2147483648 := by rw [hx0]; exact iI_rg _
    refine k_iload h_o 5 dL_law_28 rfl ?_
    refine k_aload_n h_o 0 dL_law_30 rfl rfl ?_
    refine k_slen h_o hsr dL_law_31 ?_
    refine k_iconst h_o dL_law_32 ?_
    refine k_isub h_o dL_law_33 ?_
    refine k_icmp_gt h_o 1853 (by omega) (by omega) dL_law_34 (by decide) (fun h34_o => ?_) (fun h34_o => ?_)
    · refine k_iconst h_o dL_law_1853 ?_
      exact hEND _ _ _ _ (by omega) (by omega)
    · refine k_aload_n h_o 0 dL_law_37 rfl rfl ?_
      refine k_iload h_o 5 dL_law_38 rfl ?_
      refine k_sld h_o hsr (x' := x0) (by omega) (by omega) hx0 dL_law_40 ?_
      refine k_bipush h_o dL_law_41 (by decide) ?_
      refine k_iand31 h_o dL_law_43 (fun z_o hz => ?_)
      have hiL : i_o + 5 ≤ (L_o : Int) := by omega
      by_cases hzz : 27 < z_o
      · refine k_tableOut h_o (tgt := 1847) (by omega) dL_law_44 (Or.inr hzz) (by decide) ?_
        exact k_wd (by omega) (by omega) (NEXT w_o hI hiL)
      · obtain ⟨adF, bd, nr, g_o, T_o, lts, cs, acs, ams, rel, fnd, th, Ns, fO, fD, rfl, rfl, hO, hD, hst, hmu⟩ := id hI
        have NX := fun w2_o hI2 => NEXT w2_o hI2 hiL
        have h28_o : z_o = 0 ∨ z_o = 1 ∨ z_o = 2 ∨ z_o = 3 ∨ z_o = 4 ∨ z_o = 5 ∨ z_o = 6 ∨ z_o = 7 ∨ z_o = 8 ∨ z_o = 9 ∨ z_o = 10 ∨ z_o = 11 ∨ z_o = 12 ∨ z_o = 13 ∨ z_o = 14 ∨ z_o = 15 ∨ z_o = 16 ∨ z_o = 17 ∨ z_o = 18 ∨ z_o = 19 ∨ z_o = 20 ∨ z_o = 21 ∨ z_o = 22 ∨ z_o = 23 ∨ z_o = 24 ∨ z_o = 25 ∨ z_o = 26 ∨ z_o = 27 := by omega
        rcases h28_o with rfl | rfl | rfl | rfl | rfl | rfl | rfl | rfl | rfl | rfl | rfl | rfl | rfl | rfl | rfl | rfl | rfl | rfl | rfl | rfl | rfl | rfl | rfl | rfl | rfl | rfl | rfl | rfl
        · refine k_tableIn h_o (tgt := 172) (by decide) dL_law_44 (by decide) (by decide) rfl (by decide) ?_
          exact law_addRule hl0 h_o hNc hsr hL ⟨h0_o, hiL⟩ (by omega) (by omega) hO hD hst hmu NX
        · refine k_tableIn h_o (tgt := 264) (by decide) dL_law_44 (by decide) (by decide) rfl (by decide) ?_
          exact law_dropRule hl0 h_o hNc hsr hL ⟨h0_o, hiL⟩ (by omega) (by omega) hO hD hst hmu NX
        · refine k_tableIn h_o (tgt := 320) (by decide) dL_law_44 (by decide) (by decide) rfl (by decide) ?_
          exact law_setRank hl0 h_o hNc hsr hL ⟨h0_o, hiL⟩ (by omega) (by omega) hO hD hst hmu NX
        · refine k_tableIn h_o (tgt := 388) (by decide) dL_law_44 (by decide) (by decide) rfl (by decide) ?_
          exact law_setStyle hl0 h_o hNc hsr hL ⟨h0_o, hiL⟩ (by omega) (by omega) hO hD hst hmu NX
        · refine k_tableIn h_o (tgt := 468) (by decide) dL_law_44 (by decide) (by decide) rfl (by decide) ?_
          exact law_rules hl0 h_o hNc hsr hL ⟨h0_o, hiL⟩ (by omega) (by omega) hO hD hst hmu NX
        · refine k_tableIn h_o (tgt := 481) (by decide) dL_law_44 (by decide) (by decide) rfl (by decide) ?_
          exact law_addText hl0 h_o hNc hsr hL ⟨h0_o, hiL⟩ (by omega) (by omega) hO hD hst hmu NX
        · refine k_tableIn h_o (tgt := 537) (by decide) dL_law_44 (by decide) (by decide) rfl (by decide) ?_
          exact law_addLetter hl0 h_o hNc hsr hL ⟨h0_o, hiL⟩ (by omega) (by omega) hO hD hst hmu NX
        · refine k_tableIn h_o (tgt := 605) (by decide) dL_law_44 (by decide) (by decide) rfl (by decide) ?_
          exact law_replace hl0 h_o hNc hsr hL ⟨h0_o, hiL⟩ (by omega) (by omega) hO hD hst hmu NX
        · refine k_tableIn h_o (tgt := 685) (by decide) dL_law_44 (by decide) (by decide) rfl (by decide) ?_
          exact law_length hl0 h_o hNc hsr hL ⟨h0_o, hiL⟩ (by omega) (by omega) hO hD hst hmu NX
        · refine k_tableIn h_o (tgt := 741) (by decide) dL_law_44 (by decide) (by decide) rfl (by decide) ?_
          exact law_letterAt hl0 h_o hNc hsr hL ⟨h0_o, hiL⟩ (by omega) (by omega) hO hD hst hmu NX
        · refine k_tableIn h_o (tgt := 809) (by decide) dL_law_44 (by decide) (by decide) rfl (by decide) ?_
          exact law_trees hl0 h_o hNc hsr hL ⟨h0_o, hiL⟩ (by omega) (by omega) hO hD hst hmu NX
        · refine k_tableIn h_o (tgt := 865) (by decide) dL_law_44 (by decide) (by decide) rfl (by decide) ?_
          exact law_treesByTrying hl0 h_o hNc hsr hL ⟨h0_o, hiL⟩ (by omega) (by omega) hO hD hst hmu NX
        · refine k_tableIn h_o (tgt := 921) (by decide) dL_law_44 (by decide) (by decide) rfl (by decide) ?_
          exact law_treesOver hl0 h_o hNc hsr hL ⟨h0_o, hiL⟩ (by omega) (by omega) hO hD hst hmu NX
        · refine k_tableIn h_o (tgt := 1013) (by decide) dL_law_44 (by decide) (by decide) rfl (by decide) ?_
          exact law_size hl0 h_o hNc hsr hL ⟨h0_o, hiL⟩ (by omega) (by omega) hO hD hst hmu NX
        · refine k_tableIn h_o (tgt := 1069) (by decide) dL_law_44 (by decide) (by decide) rfl (by decide) ?_
          exact law_ruleAt hl0 h_o hNc hsr hL ⟨h0_o, hiL⟩ (by omega) (by omega) hO hD hst hmu NX
        · refine k_tableIn h_o (tgt := 1137) (by decide) dL_law_44 (by decide) (by decide) rfl (by decide) ?_
          exact law_depth hl0 h_o hNc hsr hL ⟨h0_o, hiL⟩ (by omega) (by omega) hO hD hst hmu NX
        · refine k_tableIn h_o (tgt := 1193) (by decide) dL_law_44 (by decide) (by decide) rfl (by decide) ?_
          exact law_colourAt hl0 h_o hNc hsr hL ⟨h0_o, hiL⟩ (by omega) (by omega) hO hD hst hmu NX
        · refine k_tableIn h_o (tgt := 1261) (by decide) dL_law_44 (by decide) (by decide) rfl (by decide) ?_
          exact law_formatted hl0 h_o hNc hsr hL ⟨h0_o, hiL⟩ (by omega) (by omega) hO hD hst hmu NX
        · refine k_tableIn h_o (tgt := 1317) (by decide) dL_law_44 (by decide) (by decide) rfl (by decide) ?_
          exact law_formattedAt hl0 h_o hNc hsr hL ⟨h0_o, hiL⟩ (by omega) (by omega) hO hD hst hmu NX
        · refine k_tableIn h_o (tgt := 1385) (by decide) dL_law_44 (by decide) (by decide) rfl (by decide) ?_
          exact law_accept hl0 h_o hNc hsr hL ⟨h0_o, hiL⟩ (by omega) (by omega) hO hD hst hmu NX
        · refine k_tableIn h_o (tgt := 1441) (by decide) dL_law_44 (by decide) (by decide) rfl (by decide) ?_
          exact law_fault hl0 h_o hNc hsr hL ⟨h0_o, hiL⟩ (by omega) (by omega) hO hD hst hmu NX
        · refine k_tableIn h_o (tgt := 1497) (by decide) dL_law_44 (by decide) (by decide) rfl (by decide) ?_
          exact law_release hl0 h_o hNc hsr hL ⟨h0_o, hiL⟩ (by omega) (by omega) hO hD hst hmu NX
        · refine k_tableIn h_o (tgt := 1541) (by decide) dL_law_44 (by decide) (by decide) rfl (by decide) ?_
          exact law_ambiguous hl0 h_o hNc hsr hL ⟨h0_o, hiL⟩ (by omega) (by omega) hO hD hst hmu NX
        · refine k_tableIn h_o (tgt := 1609) (by decide) dL_law_44 (by decide) (by decide) rfl (by decide) ?_
          exact law_ambiguousAt hl0 h_o hNc hsr hL ⟨h0_o, hiL⟩ (by omega) (by omega) hO hD hst hmu NX
        · refine k_tableIn h_o (tgt := 1689) (by decide) dL_law_44 (by decide) (by decide) rfl (by decide) ?_
          exact law_work hl0 h_o hNc hsr hL ⟨h0_o, hiL⟩ (by omega) (by omega) hO hD hst hmu NX
        · refine k_tableIn h_o (tgt := 1703) (by decide) dL_law_44 (by decide) (by decide) rfl (by decide) ?_
          exact law_cleanShare hl0 h_o hNc hsr hL ⟨h0_o, hiL⟩ (by omega) (by omega) hO hD hst hmu NX
        · refine k_tableIn h_o (tgt := 1769) (by decide) dL_law_44 (by decide) (by decide) rfl (by decide) ?_
          exact law_meanTrees hl0 h_o hNc hsr hL ⟨h0_o, hiL⟩ (by omega) (by omega) hO hD hst hmu NX
        · refine k_tableIn h_o (tgt := 1834) (by decide) dL_law_44 (by decide) (by decide) rfl (by decide) ?_
          exact law_isSound hl0 h_o hNc hsr hL ⟨h0_o, hiL⟩ (by omega) (by omega) hO hD hst hmu NX

set_option maxHeartbeats 4000000 in
set_option maxRecDepth 100000 in
theorem law_start {E_o : kE} {X_o : kX} {b_o L_o : Nat} {xs : Nat → Int32} (hl0 : (kXl X_o).stackTraces = false) (h_o : kOk E_o X_o code RL 9 room_1) (hNc : kNc (kXs X_o)) (hsr : kSr E_o X_o b_o L_o xs) (hL : L_o ≤ 2560) (hEND : ∀ (k_o n_o : Nat) (w_o : kW) (lv : List (Nat × Value)), k_o ≤ 603072 → n_o ≤ 7215210 → kG E_o X_o 9 k_o n_o w_o 1854 lv [.int (iI 1)]) : kG E_o X_o 9 0 0 (fun _ => none) 0 [(0, .ref b_o)] [] := by
  refine k_new (ci := 8) (fs := [.null, .null, .null, .null, .null, .int (iI 0), .int (iI 0), .long (lI 0)]) h_o 0 rfl kwl_X6 tyX6_ok kq_1_22 kq_1_23 kq_1_1 (fun j_o hj => by rcases j_o with _ | _ | _ | _ | _ | _ | _ | _ | _ | _ | _ | _ | _ | _ | _ | _ | _ | _ | _ | _ | _ | _ | _ | _ | _ | j_o <;> first | rfl | omega) ⟨(Nat.le_of_ble_eq_true rfl), (Nat.le_of_ble_eq_true rfl)⟩ dL_law_0 (fun a0 => ?_)
  refine k_dup h_o dL_law_3 rfl ?_
  refine k_callI (As := []) (rest := [.ref a0]) h_o mX6_init kq_1_24 (c_X6_init hl0 kset_eq) rfl rfl (Nat.le_of_ble_eq_true rfl) ⟨rfl, rfl, ⟨(Nat.le_of_ble_eq_true rfl), (Nat.le_of_ble_eq_true rfl)⟩, ⟨(Nat.le_of_ble_eq_true rfl), (Nat.le_of_ble_eq_true rfl)⟩⟩ dL_law_4 (kcV fun ws32 hp => ?_)
  obtain ⟨⟨adF, had, hsu⟩, hexs32⟩ := hp
  refine k_astore_n (lv' := [(1, .ref a0), (0, .ref b_o)]) h_o dL_law_7 rfl (by decide) rfl ?_
  refine k_new (ci := 9) (fs := [.null, .null, .null, .null, .null, .null, .null, .int (iI 0), .null, .null, .null, .null, .int (iI 0), .long (lI 0), .int (iI 0), .null, .int (iI 0), .null, .null, .int (iI 0), .null, .null, .int (iI 0), .int (iI 0), .int (iI 0)]) h_o 19 rfl kwl_X7 tyX7_ok kq_4_119 kq_4_120 kq_1_6 (fun j_o hj => by rcases j_o with _ | _ | _ | _ | _ | _ | _ | _ | _ | _ | _ | _ | _ | _ | _ | _ | _ | _ | _ | _ | _ | _ | _ | _ | _ | j_o <;> first | rfl | omega) ⟨(Nat.le_of_ble_eq_true rfl), (Nat.le_of_ble_eq_true rfl)⟩ dL_law_8 (fun b0 => ?_)
  refine k_dup h_o dL_law_11 rfl ?_
  refine k_callI (As := []) (rest := [.ref b0]) h_o mX7_init kq_4_121 (c_X7_init hl0 kset_eq) rfl rfl (Nat.le_of_ble_eq_true rfl) ⟨rfl, rfl, ⟨(Nat.le_of_ble_eq_true rfl), (Nat.le_of_ble_eq_true rfl)⟩, ⟨(Nat.le_of_ble_eq_true rfl), (Nat.le_of_ble_eq_true rfl)⟩⟩ dL_law_12 (kcV fun ws33 hp => ?_)
  obtain ⟨⟨bdF, hbd, hmu⟩, hexs33⟩ := hp
  refine k_astore_n (lv' := [(2, .ref b0), (1, .ref a0), (0, .ref b_o)]) h_o dL_law_15 rfl (by decide) rfl ?_
  refine k_iconst h_o dL_law_16 ?_
  refine k_newa (atype := .long) (t := 3) (N := 1) (a0 := (1, .inr (.inl (fun _ => lI 0)))) h_o 17 kq_5_180 rfl (fun cA => rfl) rfl (by decide) ⟨(Nat.le_of_ble_eq_true rfl), (Nat.le_of_ble_eq_true rfl)⟩ dL_law_17 (fun aO => ?_)
  refine k_astore_n (lv' := [(3, .ref aO), (2, .ref b0), (1, .ref a0), (0, .ref b_o)]) h_o dL_law_19 rfl (by decide) rfl ?_
  refine k_iconst h_o dL_law_20 ?_
  refine k_newa (atype := .double) (t := 4) (N := 1) (a0 := (1, .inr (.inr (.inr (.inl (fun _ => 0)))))) h_o 18 kq_5_181 rfl (fun cA => rfl) rfl (by decide) ⟨(Nat.le_of_ble_eq_true rfl), (Nat.le_of_ble_eq_true rfl)⟩ dL_law_21 (fun aD => ?_)
  refine k_astore (lv' := [(4, .ref aD), (3, .ref aO), (2, .ref b0), (1, .ref a0), (0, .ref b_o)]) h_o dL_law_23 (by decide) rfl ?_
  refine k_iconst h_o dL_law_25 ?_
  refine k_istore (lv' := [(5, .int (iI 0)), (4, .ref aD), (3, .ref aO), (2, .ref b0), (1, .ref a0), (0, .ref b_o)]) h_o dL_law_26 (by decide) rfl ?_
  refine k_sub (lv' := [(0, .ref b_o), (1, .ref a0), (2, .ref b0), (3, .ref aO), (4, .ref aD), (5, .int (iI 0))]) [5, 4, 3, 2, 1, 0] rfl ?_
  exact law_loop hl0 h_o hNc hsr hL hEND 2561 0 _ _ _ (by omega) (by omega) (by omega) (by omega) (by omega) ⟨adF, bdF, _, _, _, _, _, _, _, _, _, _, _, _, _, had, hbd, ((kset_ne (by decide)).trans kset_eq), kset_eq, (((hsu.ox (kEx.kset (by decide))).ox (hexs33.sub kMk_Ox)).ox ((kEx.kset (by decide)).trans (kEx.kset (by decide)))), (hmu.pl ((kEx.kset (Or.inl (by decide))).trans (kEx.kset (Or.inl (by decide)))))⟩
