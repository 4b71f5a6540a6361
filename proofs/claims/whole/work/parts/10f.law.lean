set_option maxHeartbeats 4000000 in
set_option maxRecDepth 100000 in
theorem law_addRule {E_o : kE} {X_o : kX} {k_o n_o b_o L_o : Nat} {xs : Nat → Int32} (hl0 : (kXl X_o).stackTraces = false) (h_o : kOk E_o X_o code RL 9 room_1) (hNc : kNc (kXs X_o)) (hsr : kSr E_o X_o b_o L_o xs) (hL : L_o ≤ 2560) {i_o : Int} (hi_o : 0 ≤ i_o ∧ i_o + 5 ≤ (L_o : Int)) (hk : k_o + 7 ≤ 603072) (hn : n_o + 630 ≤ 7215210) {w_o : kW} {ad : Nat → Nat} {nr : Nat} {g_o : Nat → Nat → Int} {T_o : Nat} {lts : Nat → Nat → Int} {cs : Nat → Int} {acs : Nat → Nat → Int} {ams : Nat → Int} {rel fnd : Int} {Ns : Nat → Nat → Nat} {bd : Nat → Nat} {th : Int} {aO aD : Nat} {fO : Nat → Int} {fD : Nat → UInt64} (hO : w_o 17 = some (aO, al 1 fO)) (hD : w_o 18 = some (aD, kDl 1 fD)) (hst : kSu w_o ad nr g_o T_o lts cs acs ams rel fnd Ns) (hmu : kMu w_o bd nr g_o T_o lts cs acs ams rel fnd th) (kk : ∀ w2_o : kW, kLI w2_o (ad 0) (bd 25) aO aD → kG E_o X_o 9 (k_o + 7) (n_o + 630) w2_o 1847 [(0, .ref b_o), (1, .ref (ad 0)), (2, .ref (bd 25)), (3, .ref aO), (4, .ref aD), (5, .int (iI i_o))] []) : kG E_o X_o 9 k_o n_o w_o 172 [(0, .ref b_o), (1, .ref (ad 0)), (2, .ref (bd 25)), (3, .ref aO), (4, .ref aD), (5, .int (iI i_o))] [] := by
  obtain ⟨x1, hx1⟩ : ∃ z_o, z_o = (xs (i_o + 1).toNat).toInt := ⟨_, rfl⟩
  have hr1 : -2147483648 ≤ x1 ∧ x1 < 2147483648 := by rw [hx1]; exact iI_rg _
  obtain ⟨x2, hx2⟩ : ∃ z_o, z_o = (xs (i_o + 2).toNat).toInt := ⟨_, rfl⟩
  have hr2 : -2147483648 ≤ x2 ∧ x2 < 2147483648 := by rw [hx2]; exact iI_rg _
  obtain ⟨x3, hx3⟩ : ∃ z_o, z_o = (xs (i_o + 3).toNat).toInt := ⟨_, rfl⟩
  have hr3 : -2147483648 ≤ x3 ∧ x3 < 2147483648 := by rw [hx3]; exact iI_rg _
  obtain ⟨x4, hx4⟩ : ∃ z_o, z_o = (xs (i_o + 4).toNat).toInt := ⟨_, rfl⟩
  have hr4 : -2147483648 ≤ x4 ∧ x4 < 2147483648 := by rw [hx4]; exact iI_rg _
  obtain ⟨fs19, h19_o⟩ := hmu.obj
  refine k_aload_n h_o 1 dL_law_172 rfl rfl ?_
  refine k_aload_n h_o 0 dL_law_173 rfl rfl ?_
  refine k_iload h_o 5 dL_law_174 rfl ?_
  refine k_iconst h_o dL_law_176 ?_
  refine k_iadd h_o dL_law_177 ?_
  refine k_sld h_o hsr (x' := x1) (by omega) (by omega) hx1 dL_law_178 ?_
  refine k_aload_n h_o 0 dL_law_179 rfl rfl ?_
  refine k_iload h_o 5 dL_law_180 rfl ?_
  refine k_iconst h_o dL_law_182 ?_
  refine k_iadd h_o dL_law_183 ?_
  refine k_sld h_o hsr (x' := x2) (by omega) (by omega) hx2 dL_law_184 ?_
  refine k_aload_n h_o 0 dL_law_185 rfl rfl ?_
  refine k_iload h_o 5 dL_law_186 rfl ?_
  refine k_iconst h_o dL_law_188 ?_
  refine k_iadd h_o dL_law_189 ?_
  refine k_sld h_o hsr (x' := x3) (by omega) (by omega) hx3 dL_law_190 ?_
  refine k_aload_n h_o 0 dL_law_191 rfl rfl ?_
  refine k_iload h_o 5 dL_law_192 rfl ?_
  refine k_iconst h_o dL_law_194 ?_
  refine k_iadd h_o dL_law_195 ?_
  refine k_sld h_o hsr (x' := x4) (by omega) (by omega) hx4 dL_law_196 ?_
  refine k_aload_n h_o 3 dL_law_197 rfl rfl ?_
  refine k_callSWN (As := [.ref (ad 0), .int (iI x1), .int (iI x2), .int (iI x3), .int (iI x4), .ref aO]) (rest := []) h_o hNc mL_addRule kq_2_45 (c_L_addRule hl0 hst hr1 hr2 hr3 hr4 hO) rfl rfl (Nat.le_of_ble_eq_true rfl) ⟨rfl, rfl, ⟨(Nat.le_of_ble_eq_true rfl), (Nat.le_of_ble_eq_true rfl)⟩, ⟨by show _ ≤ 603072; omega, by show _ ≤ 7215210; omega⟩⟩ dL_law_198 (kcI fun zH w1_o hp => ?_)
  rcases hp with ⟨rfl, z1_o, rfl, e1, e2, hO1, hexP, ad2, Ns2, e3, hsu1⟩ | ⟨rfl, e1, hO1, hexP, hsu1⟩ | ⟨rfl, e1, hO1, hexP, hsu1⟩
  · have hmu1 := hmu.pl (hexP.sub kP7_Pw)
    obtain ⟨fs19P, h19P⟩ := hmu1.obj
    refine k_istore (lv' := [(6, .int (iI 0)), (0, .ref b_o), (1, .ref (ad 0)), (2, .ref (bd 25)), (3, .ref aO), (4, .ref aD), (5, .int (iI i_o))]) h_o dL_law_201 (by decide) rfl ?_
    refine k_aload_n h_o 3 dL_law_203 rfl rfl ?_
    refine k_aload_n h_o 1 dL_law_204 rfl rfl ?_
    refine k_iload h_o 6 dL_law_205 rfl ?_
    refine k_iconst h_o dL_law_207 ?_
    refine k_iadd h_o dL_law_208 ?_
    refine k_sld h_o hsr (x' := x1) (by omega) (by omega) hx1 dL_law_209 ?_
    refine k_aload_n h_o 1 dL_law_210 rfl rfl ?_
    refine k_iload h_o 6 dL_law_211 rfl ?_
    refine k_iconst h_o dL_law_213 ?_
    refine k_iadd h_o dL_law_214 ?_
    refine k_sld h_o hsr (x' := x2) (by omega) (by omega) hx2 dL_law_215 ?_
    refine k_aload_n h_o 1 dL_law_216 rfl rfl ?_
    refine k_iload h_o 6 dL_law_217 rfl ?_
    refine k_iconst h_o dL_law_219 ?_
    refine k_iadd h_o dL_law_220 ?_
    refine k_sld h_o hsr (x' := x3) (by omega) (by omega) hx3 dL_law_221 ?_
    refine k_aload_n h_o 1 dL_law_222 rfl rfl ?_
    refine k_iload h_o 6 dL_law_223 rfl ?_
    refine k_iconst h_o dL_law_225 ?_
    refine k_iadd h_o dL_law_226 ?_
    refine k_sld h_o hsr (x' := x4) (by omega) (by omega) hx4 dL_law_227 ?_
    refine k_callV (As := [.int (iI x1), .int (iI x2), .int (iI x3), .int (iI x4)]) (rest := []) h_o mX7_addRule kq_4_207 (c_X7_addRule hl0 hmu1 hr1 hr2 hr3 hr4) 19 h19P rfl rfl rfl (Nat.le_of_ble_eq_true rfl) ⟨rfl, rfl, ⟨(Nat.le_of_ble_eq_true rfl), (Nat.le_of_ble_eq_true rfl)⟩, ⟨by show _ ≤ 603072; omega, by show _ ≤ 7215210; omega⟩⟩ dL_law_228 (kcI fun zM w2_o hp => ?_)
    rcases hp with ⟨q1, rfl, hmu2, hexM⟩ | ⟨q1, hmu2, hexM⟩ | ⟨q1, hmu2, hexM⟩
    · obtain ⟨fs19M, h19M⟩ := hmu2.obj
      refine k_istore (lv' := [(7, .int (iI ((nr : Nat) : Int))), (6, .int (iI 0)), (0, .ref b_o), (1, .ref (ad 0)), (2, .ref (bd 25)), (3, .ref aO), (4, .ref aD), (5, .int (iI i_o))]) h_o dL_law_231 (by decide) rfl ?_
      refine k_aload_n h_o 4 dL_law_233 rfl rfl ?_
      refine k_callV (As := []) (rest := []) h_o mX7_thrown kq_4_203 (c_X7_thrown hl0 hmu2) 19 h19M rfl rfl rfl (Nat.le_of_ble_eq_true rfl) ⟨rfl, rfl, ⟨(Nat.le_of_ble_eq_true rfl), (Nat.le_of_ble_eq_true rfl)⟩, ⟨by show _ ≤ 603072; omega, by show _ ≤ 7215210; omega⟩⟩ dL_law_234 (kcI fun z234_o w3_o hp => ?_)
      obtain ⟨rfl, rfl⟩ := hp
      refine k_iload h_o 1 dL_law_237 rfl ?_
      refine k_icmpS h_o 244 dL_law_239 (by decide) ?_
      refine k_iload h_o 1 dL_law_244 rfl ?_
      refine k_ifne h_o 261 (by decide) dL_law_246 (by decide) (fun h246_o => ?_) (fun h246_o => ?_)
      · exfalso; omega
      · refine k_aload_n h_o 5 dL_law_249 rfl rfl ?_
        refine k_iconst h_o dL_law_250 ?_
        refine k_lald h_o 17 ((hexM 17 (by show ¬ (19 ≤ 17 ∧ 17 ≤ 44); omega)).trans hO1) (by decide) (by decide) dL_law_251 ?_
        refine k_topL (z' := m_w ((nr : Nat) : Int)) kup_eq ?_
        refine k_iload h_o 0 dL_law_252 rfl ?_
        refine k_i2lW h_o dL_law_254 ?_
        refine k_lcmpS h_o dL_law_255 ?_
        refine k_ifeq h_o 261 (by decide) dL_law_256 (by decide) (fun h256_o => ?_) (fun h256_o => ?_)
        · refine k_goto h_o 1847 dL_law_261 (by decide) ?_
          refine k_sub (lv' := [(0, .ref b_o), (1, .ref (ad 0)), (2, .ref (bd 25)), (3, .ref aO), (4, .ref aD), (5, .int (iI i_o))]) [2, 3, 4, 5, 6, 7] rfl ?_
          refine k_wd (k2 := k_o + 7) (n2 := n_o + 630) (by omega) (by omega) ?_
          exact kk _ ⟨_, bd, _, _, _, _, _, _, _, _, _, _, _, _, _, e3, rfl, ((hexM 17 (by show ¬ (19 ≤ 17 ∧ 17 ≤ 44); omega)).trans hO1), ((hexM 18 (by show ¬ (19 ≤ 18 ∧ 18 ≤ 44); omega)).trans ((hexP 18 (by show ¬ (18 ≤ 17 ∨ 100 ≤ 18); omega)).trans hD)), (hsu1.ox (hexM.sub kMk_Ox)), hmu2⟩
        · exfalso; omega
    · exfalso; (first | omega | exact absurd q1 e1 | exact absurd e1 q1 | exact absurd q1.1 e1 | exact absurd e1 q1.1 | exact absurd e1.1 q1 | exact absurd q1 e1.1 | exact absurd e1.1 q1.1 | exact absurd q1.1 e1.1)
    · exfalso; (first | omega | exact absurd q1 e1 | exact absurd e1 q1 | exact absurd q1.1 e1 | exact absurd e1 q1.1 | exact absurd e1.1 q1 | exact absurd q1 e1.1 | exact absurd e1.1 q1.1 | exact absurd q1.1 e1.1)
  · have hmu1 := hmu.pl (hexP.sub kP7_Pw)
    obtain ⟨fs19P, h19P⟩ := hmu1.obj
    refine k_istore (lv' := [(6, .int (iI 1)), (0, .ref b_o), (1, .ref (ad 0)), (2, .ref (bd 25)), (3, .ref aO), (4, .ref aD), (5, .int (iI i_o))]) h_o dL_law_201 (by decide) rfl ?_
    refine k_aload_n h_o 3 dL_law_203 rfl rfl ?_
    refine k_aload_n h_o 1 dL_law_204 rfl rfl ?_
    refine k_iload h_o 6 dL_law_205 rfl ?_
    refine k_iconst h_o dL_law_207 ?_
    refine k_iadd h_o dL_law_208 ?_
    refine k_sld h_o hsr (x' := x1) (by omega) (by omega) hx1 dL_law_209 ?_
    refine k_aload_n h_o 1 dL_law_210 rfl rfl ?_
    refine k_iload h_o 6 dL_law_211 rfl ?_
    refine k_iconst h_o dL_law_213 ?_
    refine k_iadd h_o dL_law_214 ?_
    refine k_sld h_o hsr (x' := x2) (by omega) (by omega) hx2 dL_law_215 ?_
    refine k_aload_n h_o 1 dL_law_216 rfl rfl ?_
    refine k_iload h_o 6 dL_law_217 rfl ?_
    refine k_iconst h_o dL_law_219 ?_
    refine k_iadd h_o dL_law_220 ?_
    refine k_sld h_o hsr (x' := x3) (by omega) (by omega) hx3 dL_law_221 ?_
    refine k_aload_n h_o 1 dL_law_222 rfl rfl ?_
    refine k_iload h_o 6 dL_law_223 rfl ?_
    refine k_iconst h_o dL_law_225 ?_
    refine k_iadd h_o dL_law_226 ?_
    refine k_sld h_o hsr (x' := x4) (by omega) (by omega) hx4 dL_law_227 ?_
    refine k_callV (As := [.int (iI x1), .int (iI x2), .int (iI x3), .int (iI x4)]) (rest := []) h_o mX7_addRule kq_4_207 (c_X7_addRule hl0 hmu1 hr1 hr2 hr3 hr4) 19 h19P rfl rfl rfl (Nat.le_of_ble_eq_true rfl) ⟨rfl, rfl, ⟨(Nat.le_of_ble_eq_true rfl), (Nat.le_of_ble_eq_true rfl)⟩, ⟨by show _ ≤ 603072; omega, by show _ ≤ 7215210; omega⟩⟩ dL_law_228 (kcI fun zM w2_o hp => ?_)
    rcases hp with ⟨q1, rfl, hmu2, hexM⟩ | ⟨q1, hmu2, hexM⟩ | ⟨q1, hmu2, hexM⟩
    · exfalso; (first | omega | exact absurd q1 e1 | exact absurd e1 q1 | exact absurd q1.1 e1 | exact absurd e1 q1.1 | exact absurd e1.1 q1 | exact absurd q1 e1.1 | exact absurd e1.1 q1.1 | exact absurd q1.1 e1.1)
    · obtain ⟨fs19M, h19M⟩ := hmu2.obj
      refine k_istore (lv' := [(7, .int (iI zM)), (6, .int (iI 1)), (0, .ref b_o), (1, .ref (ad 0)), (2, .ref (bd 25)), (3, .ref aO), (4, .ref aD), (5, .int (iI i_o))]) h_o dL_law_231 (by decide) rfl ?_
      refine k_aload_n h_o 4 dL_law_233 rfl rfl ?_
      refine k_callV (As := []) (rest := []) h_o mX7_thrown kq_4_203 (c_X7_thrown hl0 hmu2) 19 h19M rfl rfl rfl (Nat.le_of_ble_eq_true rfl) ⟨rfl, rfl, ⟨(Nat.le_of_ble_eq_true rfl), (Nat.le_of_ble_eq_true rfl)⟩, ⟨by show _ ≤ 603072; omega, by show _ ≤ 7215210; omega⟩⟩ dL_law_234 (kcI fun z234_o w3_o hp => ?_)
      obtain ⟨rfl, rfl⟩ := hp
      refine k_iload h_o 1 dL_law_237 rfl ?_
      refine k_icmpS h_o 244 dL_law_239 (by decide) ?_
      refine k_iload h_o 1 dL_law_244 rfl ?_
      refine k_ifne h_o 261 (by decide) dL_law_246 (by decide) (fun h246_o => ?_) (fun h246_o => ?_)
      · refine k_goto h_o 1847 dL_law_261 (by decide) ?_
        refine k_sub (lv' := [(0, .ref b_o), (1, .ref (ad 0)), (2, .ref (bd 25)), (3, .ref aO), (4, .ref aD), (5, .int (iI i_o))]) [2, 3, 4, 5, 6, 7] rfl ?_
        refine k_wd (k2 := k_o + 7) (n2 := n_o + 630) (by omega) (by omega) ?_
        exact kk _ ⟨_, bd, _, _, _, _, _, _, _, _, _, _, _, _, _, rfl, rfl, ((hexM 17 (by show ¬ (19 ≤ 17 ∧ 17 ≤ 44); omega)).trans hO1), ((hexM 18 (by show ¬ (19 ≤ 18 ∧ 18 ≤ 44); omega)).trans ((hexP 18 (by show ¬ (18 ≤ 17 ∨ 100 ≤ 18); omega)).trans hD)), (hsu1.ox (hexM.sub kMk_Ox)), hmu2⟩
      · exfalso; omega
    · exfalso; (first | omega | exact absurd q1 e1 | exact absurd e1 q1 | exact absurd q1.1 e1 | exact absurd e1 q1.1 | exact absurd e1.1 q1 | exact absurd q1 e1.1 | exact absurd e1.1 q1.1 | exact absurd q1.1 e1.1)
  · have hmu1 := hmu.pl (hexP.sub kP7_Pw)
    obtain ⟨fs19P, h19P⟩ := hmu1.obj
    refine k_istore (lv' := [(6, .int (iI 2)), (0, .ref b_o), (1, .ref (ad 0)), (2, .ref (bd 25)), (3, .ref aO), (4, .ref aD), (5, .int (iI i_o))]) h_o dL_law_201 (by decide) rfl ?_
    refine k_aload_n h_o 3 dL_law_203 rfl rfl ?_
    refine k_aload_n h_o 1 dL_law_204 rfl rfl ?_
    refine k_iload h_o 6 dL_law_205 rfl ?_
    refine k_iconst h_o dL_law_207 ?_
    refine k_iadd h_o dL_law_208 ?_
    refine k_sld h_o hsr (x' := x1) (by omega) (by omega) hx1 dL_law_209 ?_
    refine k_aload_n h_o 1 dL_law_210 rfl rfl ?_
    refine k_iload h_o 6 dL_law_211 rfl ?_
    refine k_iconst h_o dL_law_213 ?_
    refine k_iadd h_o dL_law_214 ?_
    refine k_sld h_o hsr (x' := x2) (by omega) (by omega) hx2 dL_law_215 ?_
    refine k_aload_n h_o 1 dL_law_216 rfl rfl ?_
    refine k_iload h_o 6 dL_law_217 rfl ?_
    refine k_iconst h_o dL_law_219 ?_
    refine k_iadd h_o dL_law_220 ?_
    refine k_sld h_o hsr (x' := x3) (by omega) (by omega) hx3 dL_law_221 ?_
    refine k_aload_n h_o 1 dL_law_222 rfl rfl ?_
    refine k_iload h_o 6 dL_law_223 rfl ?_
    refine k_iconst h_o dL_law_225 ?_
    refine k_iadd h_o dL_law_226 ?_
    refine k_sld h_o hsr (x' := x4) (by omega) (by omega) hx4 dL_law_227 ?_
    refine k_callV (As := [.int (iI x1), .int (iI x2), .int (iI x3), .int (iI x4)]) (rest := []) h_o mX7_addRule kq_4_207 (c_X7_addRule hl0 hmu1 hr1 hr2 hr3 hr4) 19 h19P rfl rfl rfl (Nat.le_of_ble_eq_true rfl) ⟨rfl, rfl, ⟨(Nat.le_of_ble_eq_true rfl), (Nat.le_of_ble_eq_true rfl)⟩, ⟨by show _ ≤ 603072; omega, by show _ ≤ 7215210; omega⟩⟩ dL_law_228 (kcI fun zM w2_o hp => ?_)
    rcases hp with ⟨q1, rfl, hmu2, hexM⟩ | ⟨q1, hmu2, hexM⟩ | ⟨q1, hmu2, hexM⟩
    · exfalso; (first | omega | exact absurd q1 e1 | exact absurd e1 q1 | exact absurd q1.1 e1 | exact absurd e1 q1.1 | exact absurd e1.1 q1 | exact absurd q1 e1.1 | exact absurd e1.1 q1.1 | exact absurd q1.1 e1.1)
    · exfalso; (first | omega | exact absurd q1 e1 | exact absurd e1 q1 | exact absurd q1.1 e1 | exact absurd e1 q1.1 | exact absurd e1.1 q1 | exact absurd q1 e1.1 | exact absurd e1.1 q1.1 | exact absurd q1.1 e1.1)
    · obtain ⟨fs19M, h19M⟩ := hmu2.obj
      refine k_istore (lv' := [(7, .int (iI zM)), (6, .int (iI 2)), (0, .ref b_o), (1, .ref (ad 0)), (2, .ref (bd 25)), (3, .ref aO), (4, .ref aD), (5, .int (iI i_o))]) h_o dL_law_231 (by decide) rfl ?_
      refine k_aload_n h_o 4 dL_law_233 rfl rfl ?_
      refine k_callV (As := []) (rest := []) h_o mX7_thrown kq_4_203 (c_X7_thrown hl0 hmu2) 19 h19M rfl rfl rfl (Nat.le_of_ble_eq_true rfl) ⟨rfl, rfl, ⟨(Nat.le_of_ble_eq_true rfl), (Nat.le_of_ble_eq_true rfl)⟩, ⟨by show _ ≤ 603072; omega, by show _ ≤ 7215210; omega⟩⟩ dL_law_234 (kcI fun z234_o w3_o hp => ?_)
      obtain ⟨rfl, rfl⟩ := hp
      refine k_iload h_o 1 dL_law_237 rfl ?_
      refine k_icmpS h_o 244 dL_law_239 (by decide) ?_
      refine k_iload h_o 1 dL_law_244 rfl ?_
      refine k_ifne h_o 261 (by decide) dL_law_246 (by decide) (fun h246_o => ?_) (fun h246_o => ?_)
      · refine k_goto h_o 1847 dL_law_261 (by decide) ?_
        refine k_sub (lv' := [(0, .ref b_o), (1, .ref (ad 0)), (2, .ref (bd 25)), (3, .ref aO), (4, .ref aD), (5, .int (iI i_o))]) [2, 3, 4, 5, 6, 7] rfl ?_
        refine k_wd (k2 := k_o + 7) (n2 := n_o + 630) (by omega) (by omega) ?_
        exact kk _ ⟨_, bd, _, _, _, _, _, _, _, _, _, _, _, _, _, rfl, rfl, ((hexM 17 (by show ¬ (19 ≤ 17 ∧ 17 ≤ 44); omega)).trans hO1), ((hexM 18 (by show ¬ (19 ≤ 18 ∧ 18 ≤ 44); omega)).trans ((hexP 18 (by show ¬ (18 ≤ 17 ∨ 100 ≤ 18); omega)).trans hD)), (hsu1.ox (hexM.sub kMk_Ox)), hmu2⟩
      · exfalso; omega

set_option maxHeartbeats 4000000 in
set_option maxRecDepth 100000 in
theorem law_dropRule {E_o : kE} {X_o : kX} {k_o n_o b_o L_o : Nat} {xs : Nat → Int32} (hl0 : (kXl X_o).stackTraces = false) (h_o : kOk E_o X_o code RL 9 room_1) (hNc : kNc (kXs X_o)) (hsr : kSr E_o X_o b_o L_o xs) (hL : L_o ≤ 2560) {i_o : Int} (hi_o : 0 ≤ i_o ∧ i_o + 5 ≤ (L_o : Int)) (hk : k_o + 7 ≤ 603072) (hn : n_o + 630 ≤ 7215210) {w_o : kW} {ad : Nat → Nat} {nr : Nat} {g_o : Nat → Nat → Int} {T_o : Nat} {lts : Nat → Nat → Int} {cs : Nat → Int} {acs : Nat → Nat → Int} {ams : Nat → Int} {rel fnd : Int} {Ns : Nat → Nat → Nat} {bd : Nat → Nat} {th : Int} {aO aD : Nat} {fO : Nat → Int} {fD : Nat → UInt64} (hO : w_o 17 = some (aO, al 1 fO)) (hD : w_o 18 = some (aD, kDl 1 fD)) (hst : kSu w_o ad nr g_o T_o lts cs acs ams rel fnd Ns) (hmu : kMu w_o bd nr g_o T_o lts cs acs ams rel fnd th) (kk : ∀ w2_o : kW, kLI w2_o (ad 0) (bd 25) aO aD → kG E_o X_o 9 (k_o + 7) (n_o + 630) w2_o 1847 [(0, .ref b_o), (1, .ref (ad 0)), (2, .ref (bd 25)), (3, .ref aO), (4, .ref aD), (5, .int (iI i_o))] []) : kG E_o X_o 9 k_o n_o w_o 264 [(0, .ref b_o), (1, .ref (ad 0)), (2, .ref (bd 25)), (3, .ref aO), (4, .ref aD), (5, .int (iI i_o))] [] := by
  obtain ⟨x1, hx1⟩ : ∃ z_o, z_o = (xs (i_o + 1).toNat).toInt := ⟨_, rfl⟩
  have hr1 : -2147483648 ≤ x1 ∧ x1 < 2147483648 := by rw [hx1]; exact iI_rg _
  obtain ⟨x2, hx2⟩ : ∃ z_o, z_o = (xs (i_o + 2).toNat).toInt := ⟨_, rfl⟩
  have hr2 : -2147483648 ≤ x2 ∧ x2 < 2147483648 := by rw [hx2]; exact iI_rg _
  obtain ⟨x3, hx3⟩ : ∃ z_o, z_o = (xs (i_o + 3).toNat).toInt := ⟨_, rfl⟩
  have hr3 : -2147483648 ≤ x3 ∧ x3 < 2147483648 := by rw [hx3]; exact iI_rg _
  obtain ⟨x4, hx4⟩ : ∃ z_o, z_o = (xs (i_o + 4).toNat).toInt := ⟨_, rfl⟩
  have hr4 : -2147483648 ≤ x4 ∧ x4 < 2147483648 := by rw [hx4]; exact iI_rg _
  obtain ⟨fs19, h19_o⟩ := hmu.obj
  refine k_aload_n h_o 1 dL_law_264 rfl rfl ?_
  refine k_aload_n h_o 0 dL_law_265 rfl rfl ?_
  refine k_iload h_o 5 dL_law_266 rfl ?_
  refine k_iconst h_o dL_law_268 ?_
  refine k_iadd h_o dL_law_269 ?_
  refine k_sld h_o hsr (x' := x1) (by omega) (by omega) hx1 dL_law_270 ?_
  refine k_aload_n h_o 3 dL_law_271 rfl rfl ?_
  refine k_callSWN (As := [.ref (ad 0), .int (iI x1), .ref aO]) (rest := []) h_o hNc mL_dropRule kq_2_224 (c_L_dropRule hl0 hst hr1 hO) rfl rfl (Nat.le_of_ble_eq_true rfl) ⟨rfl, rfl, ⟨(Nat.le_of_ble_eq_true rfl), (Nat.le_of_ble_eq_true rfl)⟩, ⟨by show _ ≤ 603072; omega, by show _ ≤ 7215210; omega⟩⟩ dL_law_272 (kcI fun zH w1_o hp => ?_)
  rcases hp with ⟨rfl, z1_o, rfl, e1, hO1, hexP, Ns2, hsu1⟩ | ⟨rfl, e1, hO1, hexP, hsu1⟩
  · have hmu1 := hmu.pl (hexP.sub kP7_Pw)
    obtain ⟨fs19P, h19P⟩ := hmu1.obj
    refine k_istore (lv' := [(6, .int (iI 0)), (0, .ref b_o), (1, .ref (ad 0)), (2, .ref (bd 25)), (3, .ref aO), (4, .ref aD), (5, .int (iI i_o))]) h_o dL_law_275 (by decide) rfl ?_
    refine k_aload_n h_o 3 dL_law_277 rfl rfl ?_
    refine k_aload_n h_o 1 dL_law_278 rfl rfl ?_
    refine k_iload h_o 6 dL_law_279 rfl ?_
    refine k_iconst h_o dL_law_281 ?_
    refine k_iadd h_o dL_law_282 ?_
    refine k_sld h_o hsr (x' := x1) (by omega) (by omega) hx1 dL_law_283 ?_
    refine k_callV (As := [.int (iI x1)]) (rest := []) h_o mX7_dropRule kq_4_230 (c_X7_dropRule hl0 hmu1 hr1) 19 h19P rfl rfl rfl (Nat.le_of_ble_eq_true rfl) ⟨rfl, rfl, ⟨(Nat.le_of_ble_eq_true rfl), (Nat.le_of_ble_eq_true rfl)⟩, ⟨by show _ ≤ 603072; omega, by show _ ≤ 7215210; omega⟩⟩ dL_law_284 (kcI fun zM w2_o hp => ?_)
    rcases hp with ⟨q1, rfl, hmu2, hexM⟩ | ⟨q1, hmu2, hexM⟩
    · obtain ⟨fs19M, h19M⟩ := hmu2.obj
      refine k_istore (lv' := [(7, .int (iI (m_tc (fun t_o => t_o < T_o ∧ m_has (lts t_o) (cs t_o) (m_up g_o 8 x1.toNat 1) x1.toNat) 6))), (6, .int (iI 0)), (0, .ref b_o), (1, .ref (ad 0)), (2, .ref (bd 25)), (3, .ref aO), (4, .ref aD), (5, .int (iI i_o))]) h_o dL_law_287 (by decide) rfl ?_
      refine k_aload_n h_o 4 dL_law_289 rfl rfl ?_
      refine k_callV (As := []) (rest := []) h_o mX7_thrown kq_4_203 (c_X7_thrown hl0 hmu2) 19 h19M rfl rfl rfl (Nat.le_of_ble_eq_true rfl) ⟨rfl, rfl, ⟨(Nat.le_of_ble_eq_true rfl), (Nat.le_of_ble_eq_true rfl)⟩, ⟨by show _ ≤ 603072; omega, by show _ ≤ 7215210; omega⟩⟩ dL_law_290 (kcI fun z290_o w3_o hp => ?_)
      obtain ⟨rfl, rfl⟩ := hp
      refine k_iload h_o 1 dL_law_293 rfl ?_
      refine k_icmpS h_o 300 dL_law_295 (by decide) ?_
      refine k_iload h_o 1 dL_law_300 rfl ?_
      refine k_ifne h_o 317 (by decide) dL_law_302 (by decide) (fun h302_o => ?_) (fun h302_o => ?_)
      · exfalso; omega
      · refine k_aload_n h_o 5 dL_law_305 rfl rfl ?_
        refine k_iconst h_o dL_law_306 ?_
        refine k_lald h_o 17 ((hexM 17 (by show ¬ (19 ≤ 17 ∧ 17 ≤ 44); omega)).trans hO1) (by decide) (by decide) dL_law_307 ?_
        refine k_topL (z' := m_w (m_tc (fun t_o => t_o < T_o ∧ m_has (lts t_o) (cs t_o) (m_up g_o 8 x1.toNat 1) x1.toNat) 6)) kup_eq ?_
        refine k_iload h_o 0 dL_law_308 rfl ?_
        refine k_i2lW h_o dL_law_310 ?_
        refine k_lcmpS h_o dL_law_311 ?_
        refine k_ifeq h_o 317 (by decide) dL_law_312 (by decide) (fun h312_o => ?_) (fun h312_o => ?_)
        · refine k_goto h_o 1847 dL_law_317 (by decide) ?_
          refine k_sub (lv' := [(0, .ref b_o), (1, .ref (ad 0)), (2, .ref (bd 25)), (3, .ref aO), (4, .ref aD), (5, .int (iI i_o))]) [2, 3, 4, 5, 6, 7] rfl ?_
          refine k_wd (k2 := k_o + 7) (n2 := n_o + 630) (by omega) (by omega) ?_
          exact kk _ ⟨_, bd, _, _, _, _, _, _, _, _, _, _, _, _, _, rfl, rfl, ((hexM 17 (by show ¬ (19 ≤ 17 ∧ 17 ≤ 44); omega)).trans hO1), ((hexM 18 (by show ¬ (19 ≤ 18 ∧ 18 ≤ 44); omega)).trans ((hexP 18 (by show ¬ (18 ≤ 17 ∨ 100 ≤ 18); omega)).trans hD)), (hsu1.ox (hexM.sub kMk_Ox)), hmu2⟩
        · exfalso; omega
    · exfalso; (first | omega | exact absurd q1 e1 | exact absurd e1 q1 | exact absurd q1.1 e1 | exact absurd e1 q1.1 | exact absurd e1.1 q1 | exact absurd q1 e1.1 | exact absurd e1.1 q1.1 | exact absurd q1.1 e1.1)
  · have hmu1 := hmu.pl (hexP.sub kP7_Pw)
    obtain ⟨fs19P, h19P⟩ := hmu1.obj
    refine k_istore (lv' := [(6, .int (iI 1)), (0, .ref b_o), (1, .ref (ad 0)), (2, .ref (bd 25)), (3, .ref aO), (4, .ref aD), (5, .int (iI i_o))]) h_o dL_law_275 (by decide) rfl ?_
    refine k_aload_n h_o 3 dL_law_277 rfl rfl ?_
    refine k_aload_n h_o 1 dL_law_278 rfl rfl ?_
    refine k_iload h_o 6 dL_law_279 rfl ?_
    refine k_iconst h_o dL_law_281 ?_
    refine k_iadd h_o dL_law_282 ?_
    refine k_sld h_o hsr (x' := x1) (by omega) (by omega) hx1 dL_law_283 ?_
    refine k_callV (As := [.int (iI x1)]) (rest := []) h_o mX7_dropRule kq_4_230 (c_X7_dropRule hl0 hmu1 hr1) 19 h19P rfl rfl rfl (Nat.le_of_ble_eq_true rfl) ⟨rfl, rfl, ⟨(Nat.le_of_ble_eq_true rfl), (Nat.le_of_ble_eq_true rfl)⟩, ⟨by show _ ≤ 603072; omega, by show _ ≤ 7215210; omega⟩⟩ dL_law_284 (kcI fun zM w2_o hp => ?_)
    rcases hp with ⟨q1, rfl, hmu2, hexM⟩ | ⟨q1, hmu2, hexM⟩
    · exfalso; (first | omega | exact absurd q1 e1 | exact absurd e1 q1 | exact absurd q1.1 e1 | exact absurd e1 q1.1 | exact absurd e1.1 q1 | exact absurd q1 e1.1 | exact absurd e1.1 q1.1 | exact absurd q1.1 e1.1)
    · obtain ⟨fs19M, h19M⟩ := hmu2.obj
      refine k_istore (lv' := [(7, .int (iI zM)), (6, .int (iI 1)), (0, .ref b_o), (1, .ref (ad 0)), (2, .ref (bd 25)), (3, .ref aO), (4, .ref aD), (5, .int (iI i_o))]) h_o dL_law_287 (by decide) rfl ?_
      refine k_aload_n h_o 4 dL_law_289 rfl rfl ?_
      refine k_callV (As := []) (rest := []) h_o mX7_thrown kq_4_203 (c_X7_thrown hl0 hmu2) 19 h19M rfl rfl rfl (Nat.le_of_ble_eq_true rfl) ⟨rfl, rfl, ⟨(Nat.le_of_ble_eq_true rfl), (Nat.le_of_ble_eq_true rfl)⟩, ⟨by show _ ≤ 603072; omega, by show _ ≤ 7215210; omega⟩⟩ dL_law_290 (kcI fun z290_o w3_o hp => ?_)
      obtain ⟨rfl, rfl⟩ := hp
      refine k_iload h_o 1 dL_law_293 rfl ?_
      refine k_icmpS h_o 300 dL_law_295 (by decide) ?_
      refine k_iload h_o 1 dL_law_300 rfl ?_
      refine k_ifne h_o 317 (by decide) dL_law_302 (by decide) (fun h302_o => ?_) (fun h302_o => ?_)
      · refine k_goto h_o 1847 dL_law_317 (by decide) ?_
        refine k_sub (lv' := [(0, .ref b_o), (1, .ref (ad 0)), (2, .ref (bd 25)), (3, .ref aO), (4, .ref aD), (5, .int (iI i_o))]) [2, 3, 4, 5, 6, 7] rfl ?_
        refine k_wd (k2 := k_o + 7) (n2 := n_o + 630) (by omega) (by omega) ?_
        exact kk _ ⟨_, bd, _, _, _, _, _, _, _, _, _, _, _, _, _, rfl, rfl, ((hexM 17 (by show ¬ (19 ≤ 17 ∧ 17 ≤ 44); omega)).trans hO1), ((hexM 18 (by show ¬ (19 ≤ 18 ∧ 18 ≤ 44); omega)).trans ((hexP 18 (by show ¬ (18 ≤ 17 ∨ 100 ≤ 18); omega)).trans hD)), (hsu1.ox (hexM.sub kMk_Ox)), hmu2⟩
      · exfalso; omega

set_option maxHeartbeats 4000000 in
set_option maxRecDepth 100000 in
theorem law_setRank {E_o : kE} {X_o : kX} {k_o n_o b_o L_o : Nat} {xs : Nat → Int32} (hl0 : (kXl X_o).stackTraces = false) (h_o : kOk E_o X_o code RL 9 room_1) (hNc : kNc (kXs X_o)) (hsr : kSr E_o X_o b_o L_o xs) (hL : L_o ≤ 2560) {i_o : Int} (hi_o : 0 ≤ i_o ∧ i_o + 5 ≤ (L_o : Int)) (hk : k_o + 7 ≤ 603072) (hn : n_o + 630 ≤ 7215210) {w_o : kW} {ad : Nat → Nat} {nr : Nat} {g_o : Nat → Nat → Int} {T_o : Nat} {lts : Nat → Nat → Int} {cs : Nat → Int} {acs : Nat → Nat → Int} {ams : Nat → Int} {rel fnd : Int} {Ns : Nat → Nat → Nat} {bd : Nat → Nat} {th : Int} {aO aD : Nat} {fO : Nat → Int} {fD : Nat → UInt64} (hO : w_o 17 = some (aO, al 1 fO)) (hD : w_o 18 = some (aD, kDl 1 fD)) (hst : kSu w_o ad nr g_o T_o lts cs acs ams rel fnd Ns) (hmu : kMu w_o bd nr g_o T_o lts cs acs ams rel fnd th) (kk : ∀ w2_o : kW, kLI w2_o (ad 0) (bd 25) aO aD → kG E_o X_o 9 (k_o + 7) (n_o + 630) w2_o 1847 [(0, .ref b_o), (1, .ref (ad 0)), (2, .ref (bd 25)), (3, .ref aO), (4, .ref aD), (5, .int (iI i_o))] []) : kG E_o X_o 9 k_o n_o w_o 320 [(0, .ref b_o), (1, .ref (ad 0)), (2, .ref (bd 25)), (3, .ref aO), (4, .ref aD), (5, .int (iI i_o))] [] := by
  obtain ⟨x1, hx1⟩ : ∃ z_o, z_o = (xs (i_o + 1).toNat).toInt := ⟨_, rfl⟩
  have hr1 : -2147483648 ≤ x1 ∧ x1 < 2147483648 := by rw [hx1]; exact iI_rg _
  obtain ⟨x2, hx2⟩ : ∃ z_o, z_o = (xs (i_o + 2).toNat).toInt := ⟨_, rfl⟩
  have hr2 : -2147483648 ≤ x2 ∧ x2 < 2147483648 := by rw [hx2]; exact iI_rg _
  obtain ⟨x3, hx3⟩ : ∃ z_o, z_o = (xs (i_o + 3).toNat).toInt := ⟨_, rfl⟩
  have hr3 : -2147483648 ≤ x3 ∧ x3 < 2147483648 := by rw [hx3]; exact iI_rg _
  obtain ⟨x4, hx4⟩ : ∃ z_o, z_o = (xs (i_o + 4).toNat).toInt := ⟨_, rfl⟩
  have hr4 : -2147483648 ≤ x4 ∧ x4 < 2147483648 := by rw [hx4]; exact iI_rg _
  obtain ⟨fs19, h19_o⟩ := hmu.obj
  refine k_aload_n h_o 1 dL_law_320 rfl rfl ?_
  refine k_aload_n h_o 0 dL_law_321 rfl rfl ?_
  refine k_iload h_o 5 dL_law_322 rfl ?_
  refine k_iconst h_o dL_law_324 ?_
  refine k_iadd h_o dL_law_325 ?_
  refine k_sld h_o hsr (x' := x1) (by omega) (by omega) hx1 dL_law_326 ?_
  refine k_aload_n h_o 0 dL_law_327 rfl rfl ?_
  refine k_iload h_o 5 dL_law_328 rfl ?_
  refine k_iconst h_o dL_law_330 ?_
  refine k_iadd h_o dL_law_331 ?_
  refine k_sld h_o hsr (x' := x2) (by omega) (by omega) hx2 dL_law_332 ?_
  refine k_aload_n h_o 3 dL_law_333 rfl rfl ?_
  refine k_callSWN (As := [.ref (ad 0), .int (iI x1), .int (iI x2), .ref aO]) (rest := []) h_o hNc mL_setRank kq_3_12 (c_L_setRank hl0 hst hr1 hr2 hO) rfl rfl (Nat.le_of_ble_eq_true rfl) ⟨rfl, rfl, ⟨(Nat.le_of_ble_eq_true rfl), (Nat.le_of_ble_eq_true rfl)⟩, ⟨by show _ ≤ 603072; omega, by show _ ≤ 7215210; omega⟩⟩ dL_law_334 (kcI fun zH w1_o hp => ?_)
  rcases hp with ⟨rfl, z1_o, rfl, e1, e2, hO1, hexP, hsu1⟩ | ⟨rfl, e1, hO1, hexP, hsu1⟩ | ⟨rfl, e1, hO1, hexP, hsu1⟩
  · have hmu1 := hmu.pl (hexP.sub kP7_Pw)
    obtain ⟨fs19P, h19P⟩ := hmu1.obj
    refine k_istore (lv' := [(6, .int (iI 0)), (0, .ref b_o), (1, .ref (ad 0)), (2, .ref (bd 25)), (3, .ref aO), (4, .ref aD), (5, .int (iI i_o))]) h_o dL_law_337 (by decide) rfl ?_
    refine k_aload_n h_o 3 dL_law_339 rfl rfl ?_
    refine k_aload_n h_o 1 dL_law_340 rfl rfl ?_
    refine k_iload h_o 6 dL_law_341 rfl ?_
    refine k_iconst h_o dL_law_343 ?_
    refine k_iadd h_o dL_law_344 ?_
    refine k_sld h_o hsr (x' := x1) (by omega) (by omega) hx1 dL_law_345 ?_
    refine k_aload_n h_o 1 dL_law_346 rfl rfl ?_
    refine k_iload h_o 6 dL_law_347 rfl ?_
    refine k_iconst h_o dL_law_349 ?_
    refine k_iadd h_o dL_law_350 ?_
    refine k_sld h_o hsr (x' := x2) (by omega) (by omega) hx2 dL_law_351 ?_
    refine k_callV (As := [.int (iI x1), .int (iI x2)]) (rest := []) h_o mX7_setRank kq_4_238 (c_X7_setRank hl0 hmu1 hr1 hr2) 19 h19P rfl rfl rfl (Nat.le_of_ble_eq_true rfl) ⟨rfl, rfl, ⟨(Nat.le_of_ble_eq_true rfl), (Nat.le_of_ble_eq_true rfl)⟩, ⟨by show _ ≤ 603072; omega, by show _ ≤ 7215210; omega⟩⟩ dL_law_352 (kcI fun zM w2_o hp => ?_)
    rcases hp with ⟨q1, rfl, hmu2, hexM⟩ | ⟨q1, hmu2, hexM⟩ | ⟨q1, hmu2, hexM⟩
    · obtain ⟨fs19M, h19M⟩ := hmu2.obj
      refine k_istore (lv' := [(7, .int (iI (g_o 5 x1.toNat))), (6, .int (iI 0)), (0, .ref b_o), (1, .ref (ad 0)), (2, .ref (bd 25)), (3, .ref aO), (4, .ref aD), (5, .int (iI i_o))]) h_o dL_law_355 (by decide) rfl ?_
      refine k_aload_n h_o 4 dL_law_357 rfl rfl ?_
      refine k_callV (As := []) (rest := []) h_o mX7_thrown kq_4_203 (c_X7_thrown hl0 hmu2) 19 h19M rfl rfl rfl (Nat.le_of_ble_eq_true rfl) ⟨rfl, rfl, ⟨(Nat.le_of_ble_eq_true rfl), (Nat.le_of_ble_eq_true rfl)⟩, ⟨by show _ ≤ 603072; omega, by show _ ≤ 7215210; omega⟩⟩ dL_law_358 (kcI fun z358_o w3_o hp => ?_)
      obtain ⟨rfl, rfl⟩ := hp
      refine k_iload h_o 1 dL_law_361 rfl ?_
      refine k_icmpS h_o 368 dL_law_363 (by decide) ?_
      refine k_iload h_o 1 dL_law_368 rfl ?_
      refine k_ifne h_o 385 (by decide) dL_law_370 (by decide) (fun h370_o => ?_) (fun h370_o => ?_)
      · exfalso; omega
      · refine k_aload_n h_o 5 dL_law_373 rfl rfl ?_
        refine k_iconst h_o dL_law_374 ?_
        refine k_lald h_o 17 ((hexM 17 (by show ¬ (19 ≤ 17 ∧ 17 ≤ 44); omega)).trans hO1) (by decide) (by decide) dL_law_375 ?_
        refine k_topL (z' := m_w (g_o 5 x1.toNat)) kup_eq ?_
        refine k_iload h_o 0 dL_law_376 rfl ?_
        refine k_i2lW h_o dL_law_378 ?_
        refine k_lcmpS h_o dL_law_379 ?_
        refine k_ifeq h_o 385 (by decide) dL_law_380 (by decide) (fun h380_o => ?_) (fun h380_o => ?_)
        · refine k_goto h_o 1847 dL_law_385 (by decide) ?_
          refine k_sub (lv' := [(0, .ref b_o), (1, .ref (ad 0)), (2, .ref (bd 25)), (3, .ref aO), (4, .ref aD), (5, .int (iI i_o))]) [2, 3, 4, 5, 6, 7] rfl ?_
          refine k_wd (k2 := k_o + 7) (n2 := n_o + 630) (by omega) (by omega) ?_
          exact kk _ ⟨_, bd, _, _, _, _, _, _, _, _, _, _, _, _, _, rfl, rfl, ((hexM 17 (by show ¬ (19 ≤ 17 ∧ 17 ≤ 44); omega)).trans hO1), ((hexM 18 (by show ¬ (19 ≤ 18 ∧ 18 ≤ 44); omega)).trans ((hexP 18 (by show ¬ (18 ≤ 17 ∨ 100 ≤ 18); omega)).trans hD)), (hsu1.ox (hexM.sub kMk_Ox)), hmu2⟩
        · exfalso; omega
    · exfalso; (first | omega | exact absurd q1 e1 | exact absurd e1 q1 | exact absurd q1.1 e1 | exact absurd e1 q1.1 | exact absurd e1.1 q1 | exact absurd q1 e1.1 | exact absurd e1.1 q1.1 | exact absurd q1.1 e1.1)
    · exfalso; (first | omega | exact absurd q1 e1 | exact absurd e1 q1 | exact absurd q1.1 e1 | exact absurd e1 q1.1 | exact absurd e1.1 q1 | exact absurd q1 e1.1 | exact absurd e1.1 q1.1 | exact absurd q1.1 e1.1)
  · have hmu1 := hmu.pl (hexP.sub kP7_Pw)
    obtain ⟨fs19P, h19P⟩ := hmu1.obj
    refine k_istore (lv' := [(6, .int (iI 1)), (0, .ref b_o), (1, .ref (ad 0)), (2, .ref (bd 25)), (3, .ref aO), (4, .ref aD), (5, .int (iI i_o))]) h_o dL_law_337 (by decide) rfl ?_
    refine k_aload_n h_o 3 dL_law_339 rfl rfl ?_
    refine k_aload_n h_o 1 dL_law_340 rfl rfl ?_
    refine k_iload h_o 6 dL_law_341 rfl ?_
    refine k_iconst h_o dL_law_343 ?_
    refine k_iadd h_o dL_law_344 ?_
    refine k_sld h_o hsr (x' := x1) (by omega) (by omega) hx1 dL_law_345 ?_
    refine k_aload_n h_o 1 dL_law_346 rfl rfl ?_
    refine k_iload h_o 6 dL_law_347 rfl ?_
    refine k_iconst h_o dL_law_349 ?_
    refine k_iadd h_o dL_law_350 ?_
    refine k_sld h_o hsr (x' := x2) (by omega) (by omega) hx2 dL_law_351 ?_
    refine k_callV (As := [.int (iI x1), .int (iI x2)]) (rest := []) h_o mX7_setRank kq_4_238 (c_X7_setRank hl0 hmu1 hr1 hr2) 19 h19P rfl rfl rfl (Nat.le_of_ble_eq_true rfl) ⟨rfl, rfl, ⟨(Nat.le_of_ble_eq_true rfl), (Nat.le_of_ble_eq_true rfl)⟩, ⟨by show _ ≤ 603072; omega, by show _ ≤ 7215210; omega⟩⟩ dL_law_352 (kcI fun zM w2_o hp => ?_)
    rcases hp with ⟨q1, rfl, hmu2, hexM⟩ | ⟨q1, hmu2, hexM⟩ | ⟨q1, hmu2, hexM⟩
    · exfalso; (first | omega | exact absurd q1 e1 | exact absurd e1 q1 | exact absurd q1.1 e1 | exact absurd e1 q1.1 | exact absurd e1.1 q1 | exact absurd q1 e1.1 | exact absurd e1.1 q1.1 | exact absurd q1.1 e1.1)
    · obtain ⟨fs19M, h19M⟩ := hmu2.obj
      refine k_istore (lv' := [(7, .int (iI zM)), (6, .int (iI 1)), (0, .ref b_o), (1, .ref (ad 0)), (2, .ref (bd 25)), (3, .ref aO), (4, .ref aD), (5, .int (iI i_o))]) h_o dL_law_355 (by decide) rfl ?_
      refine k_aload_n h_o 4 dL_law_357 rfl rfl ?_
      refine k_callV (As := []) (rest := []) h_o mX7_thrown kq_4_203 (c_X7_thrown hl0 hmu2) 19 h19M rfl rfl rfl (Nat.le_of_ble_eq_true rfl) ⟨rfl, rfl, ⟨(Nat.le_of_ble_eq_true rfl), (Nat.le_of_ble_eq_true rfl)⟩, ⟨by show _ ≤ 603072; omega, by show _ ≤ 7215210; omega⟩⟩ dL_law_358 (kcI fun z358_o w3_o hp => ?_)
      obtain ⟨rfl, rfl⟩ := hp
      refine k_iload h_o 1 dL_law_361 rfl ?_
      refine k_icmpS h_o 368 dL_law_363 (by decide) ?_
      refine k_iload h_o 1 dL_law_368 rfl ?_
      refine k_ifne h_o 385 (by decide) dL_law_370 (by decide) (fun h370_o => ?_) (fun h370_o => ?_)
      · refine k_goto h_o 1847 dL_law_385 (by decide) ?_
        refine k_sub (lv' := [(0, .ref b_o), (1, .ref (ad 0)), (2, .ref (bd 25)), (3, .ref aO), (4, .ref aD), (5, .int (iI i_o))]) [2, 3, 4, 5, 6, 7] rfl ?_
        refine k_wd (k2 := k_o + 7) (n2 := n_o + 630) (by omega) (by omega) ?_
        exact kk _ ⟨_, bd, _, _, _, _, _, _, _, _, _, _, _, _, _, rfl, rfl, ((hexM 17 (by show ¬ (19 ≤ 17 ∧ 17 ≤ 44); omega)).trans hO1), ((hexM 18 (by show ¬ (19 ≤ 18 ∧ 18 ≤ 44); omega)).trans ((hexP 18 (by show ¬ (18 ≤ 17 ∨ 100 ≤ 18); omega)).trans hD)), (hsu1.ox (hexM.sub kMk_Ox)), hmu2⟩
      · exfalso; omega
    · exfalso; (first | omega | exact absurd q1 e1 | exact absurd e1 q1 | exact absurd q1.1 e1 | exact absurd e1 q1.1 | exact absurd e1.1 q1 | exact absurd q1 e1.1 | exact absurd e1.1 q1.1 | exact absurd q1.1 e1.1)
  · have hmu1 := hmu.pl (hexP.sub kP7_Pw)
    obtain ⟨fs19P, h19P⟩ := hmu1.obj
    refine k_istore (lv' := [(6, .int (iI 2)), (0, .ref b_o), (1, .ref (ad 0)), (2, .ref (bd 25)), (3, .ref aO), (4, .ref aD), (5, .int (iI i_o))]) h_o dL_law_337 (by decide) rfl ?_
    refine k_aload_n h_o 3 dL_law_339 rfl rfl ?_
    refine k_aload_n h_o 1 dL_law_340 rfl rfl ?_
    refine k_iload h_o 6 dL_law_341 rfl ?_
    refine k_iconst h_o dL_law_343 ?_
    refine k_iadd h_o dL_law_344 ?_
    refine k_sld h_o hsr (x' := x1) (by omega) (by omega) hx1 dL_law_345 ?_
    refine k_aload_n h_o 1 dL_law_346 rfl rfl ?_
    refine k_iload h_o 6 dL_law_347 rfl ?_
    refine k_iconst h_o dL_law_349 ?_
    refine k_iadd h_o dL_law_350 ?_
    refine k_sld h_o hsr (x' := x2) (by omega) (by omega) hx2 dL_law_351 ?_
    refine k_callV (As := [.int (iI x1), .int (iI x2)]) (rest := []) h_o mX7_setRank kq_4_238 (c_X7_setRank hl0 hmu1 hr1 hr2) 19 h19P rfl rfl rfl (Nat.le_of_ble_eq_true rfl) ⟨rfl, rfl, ⟨(Nat.le_of_ble_eq_true rfl), (Nat.le_of_ble_eq_true rfl)⟩, ⟨by show _ ≤ 603072; omega, by show _ ≤ 7215210; omega⟩⟩ dL_law_352 (kcI fun zM w2_o hp => ?_)
    rcases hp with ⟨q1, rfl, hmu2, hexM⟩ | ⟨q1, hmu2, hexM⟩ | ⟨q1, hmu2, hexM⟩
    · exfalso; (first | omega | exact absurd q1 e1 | exact absurd e1 q1 | exact absurd q1.1 e1 | exact absurd e1 q1.1 | exact absurd e1.1 q1 | exact absurd q1 e1.1 | exact absurd e1.1 q1.1 | exact absurd q1.1 e1.1)
    · exfalso; (first | omega | exact absurd q1 e1 | exact absurd e1 q1 | exact absurd q1.1 e1 | exact absurd e1 q1.1 | exact absurd e1.1 q1 | exact absurd q1 e1.1 | exact absurd e1.1 q1.1 | exact absurd q1.1 e1.1)
    · obtain ⟨fs19M, h19M⟩ := hmu2.obj
      refine k_istore (lv' := [(7, .int (iI zM)), (6, .int (iI 2)), (0, .ref b_o), (1, .ref (ad 0)), (2, .ref (bd 25)), (3, .ref aO), (4, .ref aD), (5, .int (iI i_o))]) h_o dL_law_355 (by decide) rfl ?_
      refine k_aload_n h_o 4 dL_law_357 rfl rfl ?_
      refine k_callV (As := []) (rest := []) h_o mX7_thrown kq_4_203 (c_X7_thrown hl0 hmu2) 19 h19M rfl rfl rfl (Nat.le_of_ble_eq_true rfl) ⟨rfl, rfl, ⟨(Nat.le_of_ble_eq_true rfl), (Nat.le_of_ble_eq_true rfl)⟩, ⟨by show _ ≤ 603072; omega, by show _ ≤ 7215210; omega⟩⟩ dL_law_358 (kcI fun z358_o w3_o hp => ?_)
      obtain ⟨rfl, rfl⟩ := hp
      refine k_iload h_o 1 dL_law_361 rfl ?_
      refine k_icmpS h_o 368 dL_law_363 (by decide) ?_
      refine k_iload h_o 1 dL_law_368 rfl ?_
      refine k_ifne h_o 385 (by decide) dL_law_370 (by decide) (fun h370_o => ?_) (fun h370_o => ?_)
      · refine k_goto h_o 1847 dL_law_385 (by decide) ?_
        refine k_sub (lv' := [(0, .ref b_o), (1, .ref (ad 0)), (2, .ref (bd 25)), (3, .ref aO), (4, .ref aD), (5, .int (iI i_o))]) [2, 3, 4, 5, 6, 7] rfl ?_
        refine k_wd (k2 := k_o + 7) (n2 := n_o + 630) (by omega) (by omega) ?_
        exact kk _ ⟨_, bd, _, _, _, _, _, _, _, _, _, _, _, _, _, rfl, rfl, ((hexM 17 (by show ¬ (19 ≤ 17 ∧ 17 ≤ 44); omega)).trans hO1), ((hexM 18 (by show ¬ (19 ≤ 18 ∧ 18 ≤ 44); omega)).trans ((hexP 18 (by show ¬ (18 ≤ 17 ∨ 100 ≤ 18); omega)).trans hD)), (hsu1.ox (hexM.sub kMk_Ox)), hmu2⟩
      · exfalso; omega

set_option maxHeartbeats 4000000 in
set_option maxRecDepth 100000 in
theorem law_setStyle {E_o : kE} {X_o : kX} {k_o n_o b_o L_o : Nat} {xs : Nat → Int32} (hl0 : (kXl X_o).stackTraces = false) (h_o : kOk E_o X_o code RL 9 room_1) (hNc : kNc (kXs X_o)) (hsr : kSr E_o X_o b_o L_o xs) (hL : L_o ≤ 2560) {i_o : Int} (hi_o : 0 ≤ i_o ∧ i_o + 5 ≤ (L_o : Int)) (hk : k_o + 7 ≤ 603072) (hn : n_o + 630 ≤ 7215210) {w_o : kW} {ad : Nat → Nat} {nr : Nat} {g_o : Nat → Nat → Int} {T_o : Nat} {lts : Nat → Nat → Int} {cs : Nat → Int} {acs : Nat → Nat → Int} {ams : Nat → Int} {rel fnd : Int} {Ns : Nat → Nat → Nat} {bd : Nat → Nat} {th : Int} {aO aD : Nat} {fO : Nat → Int} {fD : Nat → UInt64} (hO : w_o 17 = some (aO, al 1 fO)) (hD : w_o 18 = some (aD, kDl 1 fD)) (hst : kSu w_o ad nr g_o T_o lts cs acs ams rel fnd Ns) (hmu : kMu w_o bd nr g_o T_o lts cs acs ams rel fnd th) (kk : ∀ w2_o : kW, kLI w2_o (ad 0) (bd 25) aO aD → kG E_o X_o 9 (k_o + 7) (n_o + 630) w2_o 1847 [(0, .ref b_o), (1, .ref (ad 0)), (2, .ref (bd 25)), (3, .ref aO), (4, .ref aD), (5, .int (iI i_o))] []) : kG E_o X_o 9 k_o n_o w_o 388 [(0, .ref b_o), (1, .ref (ad 0)), (2, .ref (bd 25)), (3, .ref aO), (4, .ref aD), (5, .int (iI i_o))] [] := by
  obtain ⟨x1, hx1⟩ : ∃ z_o, z_o = (xs (i_o + 1).toNat).toInt := ⟨_, rfl⟩
  have hr1 : -2147483648 ≤ x1 ∧ x1 < 2147483648 := by rw [hx1]; exact iI_rg _
  obtain ⟨x2, hx2⟩ : ∃ z_o, z_o = (xs (i_o + 2).toNat).toInt := ⟨_, rfl⟩
  have hr2 : -2147483648 ≤ x2 ∧ x2 < 2147483648 := by rw [hx2]; exact iI_rg _
  obtain ⟨x3, hx3⟩ : ∃ z_o, z_o = (xs (i_o + 3).toNat).toInt := ⟨_, rfl⟩
  have hr3 : -2147483648 ≤ x3 ∧ x3 < 2147483648 := by rw [hx3]; exact iI_rg _
  obtain ⟨x4, hx4⟩ : ∃ z_o, z_o = (xs (i_o + 4).toNat).toInt := ⟨_, rfl⟩
  have hr4 : -2147483648 ≤ x4 ∧ x4 < 2147483648 := by rw [hx4]; exact iI_rg _
  obtain ⟨fs19, h19_o⟩ := hmu.obj
  refine k_aload_n h_o 1 dL_law_388 rfl rfl ?_
  refine k_aload_n h_o 0 dL_law_389 rfl rfl ?_
  refine k_iload h_o 5 dL_law_390 rfl ?_
  refine k_iconst h_o dL_law_392 ?_
  refine k_iadd h_o dL_law_393 ?_
  refine k_sld h_o hsr (x' := x1) (by omega) (by omega) hx1 dL_law_394 ?_
  refine k_aload_n h_o 0 dL_law_395 rfl rfl ?_
  refine k_iload h_o 5 dL_law_396 rfl ?_
  refine k_iconst h_o dL_law_398 ?_
  refine k_iadd h_o dL_law_399 ?_
  refine k_sld h_o hsr (x' := x2) (by omega) (by omega) hx2 dL_law_400 ?_
  refine k_aload_n h_o 0 dL_law_401 rfl rfl ?_
  refine k_iload h_o 5 dL_law_402 rfl ?_
  refine k_iconst h_o dL_law_404 ?_
  refine k_iadd h_o dL_law_405 ?_
  refine k_sld h_o hsr (x' := x3) (by omega) (by omega) hx3 dL_law_406 ?_
  refine k_aload_n h_o 3 dL_law_407 rfl rfl ?_
  refine k_callSWN (As := [.ref (ad 0), .int (iI x1), .int (iI x2), .int (iI x3), .ref aO]) (rest := []) h_o hNc mL_setStyle kq_3_22 (c_L_setStyle hl0 hst hr1 hr2 hr3 hO) rfl rfl (Nat.le_of_ble_eq_true rfl) ⟨rfl, rfl, ⟨(Nat.le_of_ble_eq_true rfl), (Nat.le_of_ble_eq_true rfl)⟩, ⟨by show _ ≤ 603072; omega, by show _ ≤ 7215210; omega⟩⟩ dL_law_408 (kcI fun zH w1_o hp => ?_)
  rcases hp with ⟨rfl, z1_o, rfl, e1, e2, hO1, hexP, hsu1⟩ | ⟨rfl, e1, hO1, hexP, hsu1⟩ | ⟨rfl, e1, hO1, hexP, hsu1⟩
  · have hmu1 := hmu.pl (hexP.sub kP7_Pw)
    obtain ⟨fs19P, h19P⟩ := hmu1.obj
    refine k_istore (lv' := [(6, .int (iI 0)), (0, .ref b_o), (1, .ref (ad 0)), (2, .ref (bd 25)), (3, .ref aO), (4, .ref aD), (5, .int (iI i_o))]) h_o dL_law_411 (by decide) rfl ?_
    refine k_aload_n h_o 3 dL_law_413 rfl rfl ?_
    refine k_aload_n h_o 1 dL_law_414 rfl rfl ?_
    refine k_iload h_o 6 dL_law_415 rfl ?_
    refine k_iconst h_o dL_law_417 ?_
    refine k_iadd h_o dL_law_418 ?_
    refine k_sld h_o hsr (x' := x1) (by omega) (by omega) hx1 dL_law_419 ?_
    refine k_aload_n h_o 1 dL_law_420 rfl rfl ?_
    refine k_iload h_o 6 dL_law_421 rfl ?_
    refine k_iconst h_o dL_law_423 ?_
    refine k_iadd h_o dL_law_424 ?_
    refine k_sld h_o hsr (x' := x2) (by omega) (by omega) hx2 dL_law_425 ?_
    refine k_aload_n h_o 1 dL_law_426 rfl rfl ?_
    refine k_iload h_o 6 dL_law_427 rfl ?_
    refine k_iconst h_o dL_law_429 ?_
    refine k_iadd h_o dL_law_430 ?_
    refine k_sld h_o hsr (x' := x3) (by omega) (by omega) hx3 dL_law_431 ?_
    refine k_callV (As := [.int (iI x1), .int (iI x2), .int (iI x3)]) (rest := []) h_o mX7_setStyle kq_5_3 (c_X7_setStyle hl0 hmu1 hr1 hr2 hr3) 19 h19P rfl rfl rfl (Nat.le_of_ble_eq_true rfl) ⟨rfl, rfl, ⟨(Nat.le_of_ble_eq_true rfl), (Nat.le_of_ble_eq_true rfl)⟩, ⟨by show _ ≤ 603072; omega, by show _ ≤ 7215210; omega⟩⟩ dL_law_432 (kcI fun zM w2_o hp => ?_)
    rcases hp with ⟨q1, rfl, hmu2, hexM⟩ | ⟨q1, hmu2, hexM⟩ | ⟨q1, hmu2, hexM⟩
    · obtain ⟨fs19M, h19M⟩ := hmu2.obj
      refine k_istore (lv' := [(7, .int (iI (10 * g_o 6 x1.toNat + g_o 7 x1.toNat))), (6, .int (iI 0)), (0, .ref b_o), (1, .ref (ad 0)), (2, .ref (bd 25)), (3, .ref aO), (4, .ref aD), (5, .int (iI i_o))]) h_o dL_law_435 (by decide) rfl ?_
      refine k_aload_n h_o 4 dL_law_437 rfl rfl ?_
      refine k_callV (As := []) (rest := []) h_o mX7_thrown kq_4_203 (c_X7_thrown hl0 hmu2) 19 h19M rfl rfl rfl (Nat.le_of_ble_eq_true rfl) ⟨rfl, rfl, ⟨(Nat.le_of_ble_eq_true rfl), (Nat.le_of_ble_eq_true rfl)⟩, ⟨by show _ ≤ 603072; omega, by show _ ≤ 7215210; omega⟩⟩ dL_law_438 (kcI fun z438_o w3_o hp => ?_)
      obtain ⟨rfl, rfl⟩ := hp
      refine k_iload h_o 1 dL_law_441 rfl ?_
      refine k_icmpS h_o 448 dL_law_443 (by decide) ?_
      refine k_iload h_o 1 dL_law_448 rfl ?_
      refine k_ifne h_o 465 (by decide) dL_law_450 (by decide) (fun h450_o => ?_) (fun h450_o => ?_)
      · exfalso; omega
      · refine k_aload_n h_o 5 dL_law_453 rfl rfl ?_
        refine k_iconst h_o dL_law_454 ?_
        refine k_lald h_o 17 ((hexM 17 (by show ¬ (19 ≤ 17 ∧ 17 ≤ 44); omega)).trans hO1) (by decide) (by decide) dL_law_455 ?_
        refine k_topL (z' := m_w (10 * g_o 6 x1.toNat + g_o 7 x1.toNat)) kup_eq ?_
        refine k_iload h_o 0 dL_law_456 rfl ?_
        refine k_i2lW h_o dL_law_458 ?_
        refine k_lcmpS h_o dL_law_459 ?_
        refine k_ifeq h_o 465 (by decide) dL_law_460 (by decide) (fun h460_o => ?_) (fun h460_o => ?_)
        · refine k_goto h_o 1847 dL_law_465 (by decide) ?_
          refine k_sub (lv' := [(0, .ref b_o), (1, .ref (ad 0)), (2, .ref (bd 25)), (3, .ref aO), (4, .ref aD), (5, .int (iI i_o))]) [2, 3, 4, 5, 6, 7] rfl ?_
          refine k_wd (k2 := k_o + 7) (n2 := n_o + 630) (by omega) (by omega) ?_
          exact kk _ ⟨_, bd, _, _, _, _, _, _, _, _, _, _, _, _, _, rfl, rfl, ((hexM 17 (by show ¬ (19 ≤ 17 ∧ 17 ≤ 44); omega)).trans hO1), ((hexM 18 (by show ¬ (19 ≤ 18 ∧ 18 ≤ 44); omega)).trans ((hexP 18 (by show ¬ (18 ≤ 17 ∨ 100 ≤ 18); omega)).trans hD)), (hsu1.ox (hexM.sub kMk_Ox)), hmu2⟩
        · exfalso; omega
    · exfalso; (first | omega | exact absurd q1 e1 | exact absurd e1 q1 | exact absurd q1.1 e1 | exact absurd e1 q1.1 | exact absurd e1.1 q1 | exact absurd q1 e1.1 | exact absurd e1.1 q1.1 | exact absurd q1.1 e1.1)
    · exfalso; (first | omega | exact absurd q1 e1 | exact absurd e1 q1 | exact absurd q1.1 e1 | exact absurd e1 q1.1 | exact absurd e1.1 q1 | exact absurd q1 e1.1 | exact absurd e1.1 q1.1 | exact absurd q1.1 e1.1)
  · have hmu1 := hmu.pl (hexP.sub kP7_Pw)
    obtain ⟨fs19P, h19P⟩ := hmu1.obj
    refine k_istore (lv' := [(6, .int (iI 1)), (0, .ref b_o), (1, .ref (ad 0)), (2, .ref (bd 25)), (3, .ref aO), (4, .ref aD), (5, .int (iI i_o))]) h_o dL_law_411 (by decide) rfl ?_
    refine k_aload_n h_o 3 dL_law_413 rfl rfl ?_
    refine k_aload_n h_o 1 dL_law_414 rfl rfl ?_
    refine k_iload h_o 6 dL_law_415 rfl ?_
    refine k_iconst h_o dL_law_417 ?_
    refine k_iadd h_o dL_law_418 ?_
    refine k_sld h_o hsr (x' := x1) (by omega) (by omega) hx1 dL_law_419 ?_
    refine k_aload_n h_o 1 dL_law_420 rfl rfl ?_
    refine k_iload h_o 6 dL_law_421 rfl ?_
    refine k_iconst h_o dL_law_423 ?_
    refine k_iadd h_o dL_law_424 ?_
    refine k_sld h_o hsr (x' := x2) (by omega) (by omega) hx2 dL_law_425 ?_
    refine k_aload_n h_o 1 dL_law_426 rfl rfl ?_
    refine k_iload h_o 6 dL_law_427 rfl ?_
    refine k_iconst h_o dL_law_429 ?_
    refine k_iadd h_o dL_law_430 ?_
    refine k_sld h_o hsr (x' := x3) (by omega) (by omega) hx3 dL_law_431 ?_
    refine k_callV (As := [.int (iI x1), .int (iI x2), .int (iI x3)]) (rest := []) h_o mX7_setStyle kq_5_3 (c_X7_setStyle hl0 hmu1 hr1 hr2 hr3) 19 h19P rfl rfl rfl (Nat.le_of_ble_eq_true rfl) ⟨rfl, rfl, ⟨(Nat.le_of_ble_eq_true rfl), (Nat.le_of_ble_eq_true rfl)⟩, ⟨by show _ ≤ 603072; omega, by show _ ≤ 7215210; omega⟩⟩ dL_law_432 (kcI fun zM w2_o hp => ?_)
    rcases hp with ⟨q1, rfl, hmu2, hexM⟩ | ⟨q1, hmu2, hexM⟩ | ⟨q1, hmu2, hexM⟩
    · exfalso; (first | omega | exact absurd q1 e1 | exact absurd e1 q1 | exact absurd q1.1 e1 | exact absurd e1 q1.1 | exact absurd e1.1 q1 | exact absurd q1 e1.1 | exact absurd e1.1 q1.1 | exact absurd q1.1 e1.1)
    · obtain ⟨fs19M, h19M⟩ := hmu2.obj
      refine k_istore (lv' := [(7, .int (iI zM)), (6, .int (iI 1)), (0, .ref b_o), (1, .ref (ad 0)), (2, .ref (bd 25)), (3, .ref aO), (4, .ref aD), (5, .int (iI i_o))]) h_o dL_law_435 (by decide) rfl ?_
      refine k_aload_n h_o 4 dL_law_437 rfl rfl ?_
      refine k_callV (As := []) (rest := []) h_o mX7_thrown kq_4_203 (c_X7_thrown hl0 hmu2) 19 h19M rfl rfl rfl (Nat.le_of_ble_eq_true rfl) ⟨rfl, rfl, ⟨(Nat.le_of_ble_eq_true rfl), (Nat.le_of_ble_eq_true rfl)⟩, ⟨by show _ ≤ 603072; omega, by show _ ≤ 7215210; omega⟩⟩ dL_law_438 (kcI fun z438_o w3_o hp => ?_)
      obtain ⟨rfl, rfl⟩ := hp
      refine k_iload h_o 1 dL_law_441 rfl ?_
      refine k_icmpS h_o 448 dL_law_443 (by decide) ?_
      refine k_iload h_o 1 dL_law_448 rfl ?_
      refine k_ifne h_o 465 (by decide) dL_law_450 (by decide) (fun h450_o => ?_) (fun h450_o => ?_)
      · refine k_goto h_o 1847 dL_law_465 (by decide) ?_
        refine k_sub (lv' := [(0, .ref b_o), (1, .ref (ad 0)), (2, .ref (bd 25)), (3, .ref aO), (4, .ref aD), (5, .int (iI i_o))]) [2, 3, 4, 5, 6, 7] rfl ?_
        refine k_wd (k2 := k_o + 7) (n2 := n_o + 630) (by omega) (by omega) ?_
        exact kk _ ⟨_, bd, _, _, _, _, _, _, _, _, _, _, _, _, _, rfl, rfl, ((hexM 17 (by show ¬ (19 ≤ 17 ∧ 17 ≤ 44); omega)).trans hO1), ((hexM 18 (by show ¬ (19 ≤ 18 ∧ 18 ≤ 44); omega)).trans ((hexP 18 (by show ¬ (18 ≤ 17 ∨ 100 ≤ 18); omega)).trans hD)), (hsu1.ox (hexM.sub kMk_Ox)), hmu2⟩
      · exfalso; omega
    · exfalso; (first | omega | exact absurd q1 e1 | exact absurd e1 q1 | exact absurd q1.1 e1 | exact absurd e1 q1.1 | exact absurd e1.1 q1 | exact absurd q1 e1.1 | exact absurd e1.1 q1.1 | exact absurd q1.1 e1.1)
  · have hmu1 := hmu.pl (hexP.sub kP7_Pw)
    obtain ⟨fs19P, h19P⟩ := hmu1.obj
    refine k_istore (lv' := [(6, .int (iI 2)), (0, .ref b_o), (1, .ref (ad 0)), (2, .ref (bd 25)), (3, .ref aO), (4, .ref aD), (5, .int (iI i_o))]) h_o dL_law_411 (by decide) rfl ?_
    refine k_aload_n h_o 3 dL_law_413 rfl rfl ?_
    refine k_aload_n h_o 1 dL_law_414 rfl rfl ?_
    refine k_iload h_o 6 dL_law_415 rfl ?_
    refine k_iconst h_o dL_law_417 ?_
    refine k_iadd h_o dL_law_418 ?_
    refine k_sld h_o hsr (x' := x1) (by omega) (by omega) hx1 dL_law_419 ?_
    refine k_aload_n h_o 1 dL_law_420 rfl rfl ?_
    refine k_iload h_o 6 dL_law_421 rfl ?_
    refine k_iconst h_o dL_law_423 ?_
    refine k_iadd h_o dL_law_424 ?_
    refine k_sld h_o hsr (x' := x2) (by omega) (by omega) hx2 dL_law_425 ?_
    refine k_aload_n h_o 1 dL_law_426 rfl rfl ?_
    refine k_iload h_o 6 dL_law_427 rfl ?_
    refine k_iconst h_o dL_law_429 ?_
    refine k_iadd h_o dL_law_430 ?_
    refine k_sld h_o hsr (x' := x3) (by omega) (by omega) hx3 dL_law_431 ?_
    refine k_callV (As := [.int (iI x1), .int (iI x2), .int (iI x3)]) (rest := []) h_o mX7_setStyle kq_5_3 (c_X7_setStyle hl0 hmu1 hr1 hr2 hr3) 19 h19P rfl rfl rfl (Nat.le_of_ble_eq_true rfl) ⟨rfl, rfl, ⟨(Nat.le_of_ble_eq_true rfl), (Nat.le_of_ble_eq_true rfl)⟩, ⟨by show _ ≤ 603072; omega, by show _ ≤ 7215210; omega⟩⟩ dL_law_432 (kcI fun zM w2_o hp => ?_)
    rcases hp with ⟨q1, rfl, hmu2, hexM⟩ | ⟨q1, hmu2, hexM⟩ | ⟨q1, hmu2, hexM⟩
    · exfalso; (first | omega | exact absurd q1 e1 | exact absurd e1 q1 | exact absurd q1.1 e1 | exact absurd e1 q1.1 | exact absurd e1.1 q1 | exact absurd q1 e1.1 | exact absurd e1.1 q1.1 | exact absurd q1.1 e1.1)
    · exfalso; (first | omega | exact absurd q1 e1 | exact absurd e1 q1 | exact absurd q1.1 e1 | exact absurd e1 q1.1 | exact absurd e1.1 q1 | exact absurd q1 e1.1 | exact absurd e1.1 q1.1 | exact absurd q1.1 e1.1)
    · obtain ⟨fs19M, h19M⟩ := hmu2.obj
      refine k_istore (lv' := [(7, .int (iI zM)), (6, .int (iI 2)), (0, .ref b_o), (1, .ref (ad 0)), (2, .ref (bd 25)), (3, .ref aO), (4, .ref aD), (5, .int (iI i_o))]) h_o dL_law_435 (by decide) rfl ?_
      refine k_aload_n h_o 4 dL_law_437 rfl rfl ?_
      refine k_callV (As := []) (rest := []) h_o mX7_thrown kq_4_203 (c_X7_thrown hl0 hmu2) 19 h19M rfl rfl rfl (Nat.le_of_ble_eq_true rfl) ⟨rfl, rfl, ⟨(Nat.le_of_ble_eq_true rfl), (Nat.le_of_ble_eq_true rfl)⟩, ⟨by show _ ≤ 603072; omega, by show _ ≤ 7215210; omega⟩⟩ dL_law_438 (kcI fun z438_o w3_o hp => ?_)
      obtain ⟨rfl, rfl⟩ := hp
      refine k_iload h_o 1 dL_law_441 rfl ?_
      refine k_icmpS h_o 448 dL_law_443 (by decide) ?_
      refine k_iload h_o 1 dL_law_448 rfl ?_
      refine k_ifne h_o 465 (by decide) dL_law_450 (by decide) (fun h450_o => ?_) (fun h450_o => ?_)
      · refine k_goto h_o 1847 dL_law_465 (by decide) ?_
        refine k_sub (lv' := [(0, .ref b_o), (1, .ref (ad 0)), (2, .ref (bd 25)), (3, .ref aO), (4, .ref aD), (5, .int (iI i_o))]) [2, 3, 4, 5, 6, 7] rfl ?_
        refine k_wd (k2 := k_o + 7) (n2 := n_o + 630) (by omega) (by omega) ?_
        exact kk _ ⟨_, bd, _, _, _, _, _, _, _, _, _, _, _, _, _, rfl, rfl, ((hexM 17 (by show ¬ (19 ≤ 17 ∧ 17 ≤ 44); omega)).trans hO1), ((hexM 18 (by show ¬ (19 ≤ 18 ∧ 18 ≤ 44); omega)).trans ((hexP 18 (by show ¬ (18 ≤ 17 ∨ 100 ≤ 18); omega)).trans hD)), (hsu1.ox (hexM.sub kMk_Ox)), hmu2⟩
      · exfalso; omega

set_option maxHeartbeats 4000000 in
set_option maxRecDepth 100000 in
theorem law_addText {E_o : kE} {X_o : kX} {k_o n_o b_o L_o : Nat} {xs : Nat → Int32} (hl0 : (kXl X_o).stackTraces = false) (h_o : kOk E_o X_o code RL 9 room_1) (hNc : kNc (kXs X_o)) (hsr : kSr E_o X_o b_o L_o xs) (hL : L_o ≤ 2560) {i_o : Int} (hi_o : 0 ≤ i_o ∧ i_o + 5 ≤ (L_o : Int)) (hk : k_o + 7 ≤ 603072) (hn : n_o + 630 ≤ 7215210) {w_o : kW} {ad : Nat → Nat} {nr : Nat} {g_o : Nat → Nat → Int} {T_o : Nat} {lts : Nat → Nat → Int} {cs : Nat → Int} {acs : Nat → Nat → Int} {ams : Nat → Int} {rel fnd : Int} {Ns : Nat → Nat → Nat} {bd : Nat → Nat} {th : Int} {aO aD : Nat} {fO : Nat → Int} {fD : Nat → UInt64} (hO : w_o 17 = some (aO, al 1 fO)) (hD : w_o 18 = some (aD, kDl 1 fD)) (hst : kSu w_o ad nr g_o T_o lts cs acs ams rel fnd Ns) (hmu : kMu w_o bd nr g_o T_o lts cs acs ams rel fnd th) (kk : ∀ w2_o : kW, kLI w2_o (ad 0) (bd 25) aO aD → kG E_o X_o 9 (k_o + 7) (n_o + 630) w2_o 1847 [(0, .ref b_o), (1, .ref (ad 0)), (2, .ref (bd 25)), (3, .ref aO), (4, .ref aD), (5, .int (iI i_o))] []) : kG E_o X_o 9 k_o n_o w_o 481 [(0, .ref b_o), (1, .ref (ad 0)), (2, .ref (bd 25)), (3, .ref aO), (4, .ref aD), (5, .int (iI i_o))] [] := by
  obtain ⟨x1, hx1⟩ : ∃ z_o, z_o = (xs (i_o + 1).toNat).toInt := ⟨_, rfl⟩
  have hr1 : -2147483648 ≤ x1 ∧ x1 < 2147483648 := by rw [hx1]; exact iI_rg _
  obtain ⟨x2, hx2⟩ : ∃ z_o, z_o = (xs (i_o + 2).toNat).toInt := ⟨_, rfl⟩
  have hr2 : -2147483648 ≤ x2 ∧ x2 < 2147483648 := by rw [hx2]; exact iI_rg _
  obtain ⟨x3, hx3⟩ : ∃ z_o, z_o = (xs (i_o + 3).toNat).toInt := ⟨_, rfl⟩
  have hr3 : -2147483648 ≤ x3 ∧ x3 < 2147483648 := by rw [hx3]; exact iI_rg _
  obtain ⟨x4, hx4⟩ : ∃ z_o, z_o = (xs (i_o + 4).toNat).toInt := ⟨_, rfl⟩
  have hr4 : -2147483648 ≤ x4 ∧ x4 < 2147483648 := by rw [hx4]; exact iI_rg _
  obtain ⟨fs19, h19_o⟩ := hmu.obj
  refine k_aload_n h_o 1 dL_law_481 rfl rfl ?_
  refine k_aload_n h_o 0 dL_law_482 rfl rfl ?_
  refine k_iload h_o 5 dL_law_483 rfl ?_
  refine k_iconst h_o dL_law_485 ?_
  refine k_iadd h_o dL_law_486 ?_
  refine k_sld h_o hsr (x' := x1) (by omega) (by omega) hx1 dL_law_487 ?_
  refine k_aload_n h_o 3 dL_law_488 rfl rfl ?_
  refine k_callSWN (As := [.ref (ad 0), .int (iI x1), .ref aO]) (rest := []) h_o hNc mL_addText kq_3_29 (c_L_addText hl0 hst hr1 hO) rfl rfl (Nat.le_of_ble_eq_true rfl) ⟨rfl, rfl, ⟨(Nat.le_of_ble_eq_true rfl), (Nat.le_of_ble_eq_true rfl)⟩, ⟨by show _ ≤ 603072; omega, by show _ ≤ 7215210; omega⟩⟩ dL_law_489 (kcI fun zH w1_o hp => ?_)
  rcases hp with ⟨rfl, z1_o, rfl, e1, e2, hO1, hexP, ad2, N2, e3, hsu1⟩ | ⟨rfl, e1, hO1, hexP, hsu1⟩ | ⟨rfl, e1, hO1, hexP, hsu1⟩
  · have hmu1 := hmu.pl (hexP.sub kP7_Pw)
    obtain ⟨fs19P, h19P⟩ := hmu1.obj
    refine k_istore (lv' := [(6, .int (iI 0)), (0, .ref b_o), (1, .ref (ad 0)), (2, .ref (bd 25)), (3, .ref aO), (4, .ref aD), (5, .int (iI i_o))]) h_o dL_law_492 (by decide) rfl ?_
    refine k_aload_n h_o 3 dL_law_494 rfl rfl ?_
    refine k_aload_n h_o 1 dL_law_495 rfl rfl ?_
    refine k_iload h_o 6 dL_law_496 rfl ?_
    refine k_iconst h_o dL_law_498 ?_
    refine k_iadd h_o dL_law_499 ?_
    refine k_sld h_o hsr (x' := x1) (by omega) (by omega) hx1 dL_law_500 ?_
    refine k_callV (As := [.int (iI x1)]) (rest := []) h_o mX7_addText kq_5_12 (c_X7_addText hl0 hmu1 hr1) 19 h19P rfl rfl rfl (Nat.le_of_ble_eq_true rfl) ⟨rfl, rfl, ⟨(Nat.le_of_ble_eq_true rfl), (Nat.le_of_ble_eq_true rfl)⟩, ⟨by show _ ≤ 603072; omega, by show _ ≤ 7215210; omega⟩⟩ dL_law_501 (kcI fun zM w2_o hp => ?_)
    rcases hp with ⟨q1, rfl, hmu2, hexM⟩ | ⟨q1, hmu2, hexM⟩ | ⟨q1, hmu2, hexM⟩
    · obtain ⟨fs19M, h19M⟩ := hmu2.obj
      refine k_istore (lv' := [(7, .int (iI ((T_o : Nat) : Int))), (6, .int (iI 0)), (0, .ref b_o), (1, .ref (ad 0)), (2, .ref (bd 25)), (3, .ref aO), (4, .ref aD), (5, .int (iI i_o))]) h_o dL_law_504 (by decide) rfl ?_
      refine k_aload_n h_o 4 dL_law_506 rfl rfl ?_
      refine k_callV (As := []) (rest := []) h_o mX7_thrown kq_4_203 (c_X7_thrown hl0 hmu2) 19 h19M rfl rfl rfl (Nat.le_of_ble_eq_true rfl) ⟨rfl, rfl, ⟨(Nat.le_of_ble_eq_true rfl), (Nat.le_of_ble_eq_true rfl)⟩, ⟨by show _ ≤ 603072; omega, by show _ ≤ 7215210; omega⟩⟩ dL_law_507 (kcI fun z507_o w3_o hp => ?_)
      obtain ⟨rfl, rfl⟩ := hp
      refine k_iload h_o 1 dL_law_510 rfl ?_
      refine k_icmpS h_o 517 dL_law_512 (by decide) ?_
      refine k_iload h_o 1 dL_law_517 rfl ?_
      refine k_ifne h_o 534 (by decide) dL_law_519 (by decide) (fun h519_o => ?_) (fun h519_o => ?_)
      · exfalso; omega
      · refine k_aload_n h_o 5 dL_law_522 rfl rfl ?_
        refine k_iconst h_o dL_law_523 ?_
        refine k_lald h_o 17 ((hexM 17 (by show ¬ (19 ≤ 17 ∧ 17 ≤ 44); omega)).trans hO1) (by decide) (by decide) dL_law_524 ?_
        refine k_topL (z' := m_w ((T_o : Nat) : Int)) kup_eq ?_
        refine k_iload h_o 0 dL_law_525 rfl ?_
        refine k_i2lW h_o dL_law_527 ?_
        refine k_lcmpS h_o dL_law_528 ?_
        refine k_ifeq h_o 534 (by decide) dL_law_529 (by decide) (fun h529_o => ?_) (fun h529_o => ?_)
        · refine k_goto h_o 1847 dL_law_534 (by decide) ?_
          refine k_sub (lv' := [(0, .ref b_o), (1, .ref (ad 0)), (2, .ref (bd 25)), (3, .ref aO), (4, .ref aD), (5, .int (iI i_o))]) [2, 3, 4, 5, 6, 7] rfl ?_
          refine k_wd (k2 := k_o + 7) (n2 := n_o + 630) (by omega) (by omega) ?_
          exact kk _ ⟨_, bd, _, _, _, _, _, _, _, _, _, _, _, _, _, e3, rfl, ((hexM 17 (by show ¬ (19 ≤ 17 ∧ 17 ≤ 44); omega)).trans hO1), ((hexM 18 (by show ¬ (19 ≤ 18 ∧ 18 ≤ 44); omega)).trans ((hexP 18 (by show ¬ (18 ≤ 17 ∨ 100 ≤ 18); omega)).trans hD)), (hsu1.ox (hexM.sub kMk_Ox)), hmu2⟩
        · exfalso; omega
    · exfalso; (first | omega | exact absurd q1 e1 | exact absurd e1 q1 | exact absurd q1.1 e1 | exact absurd e1 q1.1 | exact absurd e1.1 q1 | exact absurd q1 e1.1 | exact absurd e1.1 q1.1 | exact absurd q1.1 e1.1)
    · exfalso; (first | omega | exact absurd q1 e1 | exact absurd e1 q1 | exact absurd q1.1 e1 | exact absurd e1 q1.1 | exact absurd e1.1 q1 | exact absurd q1 e1.1 | exact absurd e1.1 q1.1 | exact absurd q1.1 e1.1)
  · have hmu1 := hmu.pl (hexP.sub kP7_Pw)
    obtain ⟨fs19P, h19P⟩ := hmu1.obj
    refine k_istore (lv' := [(6, .int (iI 1)), (0, .ref b_o), (1, .ref (ad 0)), (2, .ref (bd 25)), (3, .ref aO), (4, .ref aD), (5, .int (iI i_o))]) h_o dL_law_492 (by decide) rfl ?_
    refine k_aload_n h_o 3 dL_law_494 rfl rfl ?_
    refine k_aload_n h_o 1 dL_law_495 rfl rfl ?_
    refine k_iload h_o 6 dL_law_496 rfl ?_
    refine k_iconst h_o dL_law_498 ?_
    refine k_iadd h_o dL_law_499 ?_
    refine k_sld h_o hsr (x' := x1) (by omega) (by omega) hx1 dL_law_500 ?_
    refine k_callV (As := [.int (iI x1)]) (rest := []) h_o mX7_addText kq_5_12 (c_X7_addText hl0 hmu1 hr1) 19 h19P rfl rfl rfl (Nat.le_of_ble_eq_true rfl) ⟨rfl, rfl, ⟨(Nat.le_of_ble_eq_true rfl), (Nat.le_of_ble_eq_true rfl)⟩, ⟨by show _ ≤ 603072; omega, by show _ ≤ 7215210; omega⟩⟩ dL_law_501 (kcI fun zM w2_o hp => ?_)
    rcases hp with ⟨q1, rfl, hmu2, hexM⟩ | ⟨q1, hmu2, hexM⟩ | ⟨q1, hmu2, hexM⟩
    · exfalso; (first | omega | exact absurd q1 e1 | exact absurd e1 q1 | exact absurd q1.1 e1 | exact absurd e1 q1.1 | exact absurd e1.1 q1 | exact absurd q1 e1.1 | exact absurd e1.1 q1.1 | exact absurd q1.1 e1.1)
    · obtain ⟨fs19M, h19M⟩ := hmu2.obj
      refine k_istore (lv' := [(7, .int (iI zM)), (6, .int (iI 1)), (0, .ref b_o), (1, .ref (ad 0)), (2, .ref (bd 25)), (3, .ref aO), (4, .ref aD), (5, .int (iI i_o))]) h_o dL_law_504 (by decide) rfl ?_
      refine k_aload_n h_o 4 dL_law_506 rfl rfl ?_
      refine k_callV (As := []) (rest := []) h_o mX7_thrown kq_4_203 (c_X7_thrown hl0 hmu2) 19 h19M rfl rfl rfl (Nat.le_of_ble_eq_true rfl) ⟨rfl, rfl, ⟨(Nat.le_of_ble_eq_true rfl), (Nat.le_of_ble_eq_true rfl)⟩, ⟨by show _ ≤ 603072; omega, by show _ ≤ 7215210; omega⟩⟩ dL_law_507 (kcI fun z507_o w3_o hp => ?_)
      obtain ⟨rfl, rfl⟩ := hp
      refine k_iload h_o 1 dL_law_510 rfl ?_
      refine k_icmpS h_o 517 dL_law_512 (by decide) ?_
      refine k_iload h_o 1 dL_law_517 rfl ?_
      refine k_ifne h_o 534 (by decide) dL_law_519 (by decide) (fun h519_o => ?_) (fun h519_o => ?_)
      · refine k_goto h_o 1847 dL_law_534 (by decide) ?_
        refine k_sub (lv' := [(0, .ref b_o), (1, .ref (ad 0)), (2, .ref (bd 25)), (3, .ref aO), (4, .ref aD), (5, .int (iI i_o))]) [2, 3, 4, 5, 6, 7] rfl ?_
        refine k_wd (k2 := k_o + 7) (n2 := n_o + 630) (by omega) (by omega) ?_
        exact kk _ ⟨_, bd, _, _, _, _, _, _, _, _, _, _, _, _, _, rfl, rfl, ((hexM 17 (by show ¬ (19 ≤ 17 ∧ 17 ≤ 44); omega)).trans hO1), ((hexM 18 (by show ¬ (19 ≤ 18 ∧ 18 ≤ 44); omega)).trans ((hexP 18 (by show ¬ (18 ≤ 17 ∨ 100 ≤ 18); omega)).trans hD)), (hsu1.ox (hexM.sub kMk_Ox)), hmu2⟩
      · exfalso; omega
    · exfalso; (first | omega | exact absurd q1 e1 | exact absurd e1 q1 | exact absurd q1.1 e1 | exact absurd e1 q1.1 | exact absurd e1.1 q1 | exact absurd q1 e1.1 | exact absurd e1.1 q1.1 | exact absurd q1.1 e1.1)
  · have hmu1 := hmu.pl (hexP.sub kP7_Pw)
    obtain ⟨fs19P, h19P⟩ := hmu1.obj
    refine k_istore (lv' := [(6, .int (iI 2)), (0, .ref b_o), (1, .ref (ad 0)), (2, .ref (bd 25)), (3, .ref aO), (4, .ref aD), (5, .int (iI i_o))]) h_o dL_law_492 (by decide) rfl ?_
    refine k_aload_n h_o 3 dL_law_494 rfl rfl ?_
    refine k_aload_n h_o 1 dL_law_495 rfl rfl ?_
    refine k_iload h_o 6 dL_law_496 rfl ?_
    refine k_iconst h_o dL_law_498 ?_
    refine k_iadd h_o dL_law_499 ?_
    refine k_sld h_o hsr (x' := x1) (by omega) (by omega) hx1 dL_law_500 ?_
    refine k_callV (As := [.int (iI x1)]) (rest := []) h_o mX7_addText kq_5_12 (c_X7_addText hl0 hmu1 hr1) 19 h19P rfl rfl rfl (Nat.le_of_ble_eq_true rfl) ⟨rfl, rfl, ⟨(Nat.le_of_ble_eq_true rfl), (Nat.le_of_ble_eq_true rfl)⟩, ⟨by show _ ≤ 603072; omega, by show _ ≤ 7215210; omega⟩⟩ dL_law_501 (kcI fun zM w2_o hp => ?_)
    rcases hp with ⟨q1, rfl, hmu2, hexM⟩ | ⟨q1, hmu2, hexM⟩ | ⟨q1, hmu2, hexM⟩
    · exfalso; (first | omega | exact absurd q1 e1 | exact absurd e1 q1 | exact absurd q1.1 e1 | exact absurd e1 q1.1 | exact absurd e1.1 q1 | exact absurd q1 e1.1 | exact absurd e1.1 q1.1 | exact absurd q1.1 e1.1)
    · exfalso; (first | omega | exact absurd q1 e1 | exact absurd e1 q1 | exact absurd q1.1 e1 | exact absurd e1 q1.1 | exact absurd e1.1 q1 | exact absurd q1 e1.1 | exact absurd e1.1 q1.1 | exact absurd q1.1 e1.1)
    · obtain ⟨fs19M, h19M⟩ := hmu2.obj
      refine k_istore (lv' := [(7, .int (iI zM)), (6, .int (iI 2)), (0, .ref b_o), (1, .ref (ad 0)), (2, .ref (bd 25)), (3, .ref aO), (4, .ref aD), (5, .int (iI i_o))]) h_o dL_law_504 (by decide) rfl ?_
      refine k_aload_n h_o 4 dL_law_506 rfl rfl ?_
      refine k_callV (As := []) (rest := []) h_o mX7_thrown kq_4_203 (c_X7_thrown hl0 hmu2) 19 h19M rfl rfl rfl (Nat.le_of_ble_eq_true rfl) ⟨rfl, rfl, ⟨(Nat.le_of_ble_eq_true rfl), (Nat.le_of_ble_eq_true rfl)⟩, ⟨by show _ ≤ 603072; omega, by show _ ≤ 7215210; omega⟩⟩ dL_law_507 (kcI fun z507_o w3_o hp => ?_)
      obtain ⟨rfl, rfl⟩ := hp
      refine k_iload h_o 1 dL_law_510 rfl ?_
      refine k_icmpS h_o 517 dL_law_512 (by decide) ?_
      refine k_iload h_o 1 dL_law_517 rfl ?_
      refine k_ifne h_o 534 (by decide) dL_law_519 (by decide) (fun h519_o => ?_) (fun h519_o => ?_)
      · refine k_goto h_o 1847 dL_law_534 (by decide) ?_
        refine k_sub (lv' := [(0, .ref b_o), (1, .ref (ad 0)), (2, .ref (bd 25)), (3, .ref aO), (4, .ref aD), (5, .int (iI i_o))]) [2, 3, 4, 5, 6, 7] rfl ?_
        refine k_wd (k2 := k_o + 7) (n2 := n_o + 630) (by omega) (by omega) ?_
        exact kk _ ⟨_, bd, _, _, _, _, _, _, _, _, _, _, _, _, _, rfl, rfl, ((hexM 17 (by show ¬ (19 ≤ 17 ∧ 17 ≤ 44); omega)).trans hO1), ((hexM 18 (by show ¬ (19 ≤ 18 ∧ 18 ≤ 44); omega)).trans ((hexP 18 (by show ¬ (18 ≤ 17 ∨ 100 ≤ 18); omega)).trans hD)), (hsu1.ox (hexM.sub kMk_Ox)), hmu2⟩
      · exfalso; omega

set_option maxHeartbeats 4000000 in
set_option maxRecDepth 100000 in
theorem law_addLetter {E_o : kE} {X_o : kX} {k_o n_o b_o L_o : Nat} {xs : Nat → Int32} (hl0 : (kXl X_o).stackTraces = false) (h_o : kOk E_o X_o code RL 9 room_1) (hNc : kNc (kXs X_o)) (hsr : kSr E_o X_o b_o L_o xs) (hL : L_o ≤ 2560) {i_o : Int} (hi_o : 0 ≤ i_o ∧ i_o + 5 ≤ (L_o : Int)) (hk : k_o + 7 ≤ 603072) (hn : n_o + 630 ≤ 7215210) {w_o : kW} {ad : Nat → Nat} {nr : Nat} {g_o : Nat → Nat → Int} {T_o : Nat} {lts : Nat → Nat → Int} {cs : Nat → Int} {acs : Nat → Nat → Int} {ams : Nat → Int} {rel fnd : Int} {Ns : Nat → Nat → Nat} {bd : Nat → Nat} {th : Int} {aO aD : Nat} {fO : Nat → Int} {fD : Nat → UInt64} (hO : w_o 17 = some (aO, al 1 fO)) (hD : w_o 18 = some (aD, kDl 1 fD)) (hst : kSu w_o ad nr g_o T_o lts cs acs ams rel fnd Ns) (hmu : kMu w_o bd nr g_o T_o lts cs acs ams rel fnd th) (kk : ∀ w2_o : kW, kLI w2_o (ad 0) (bd 25) aO aD → kG E_o X_o 9 (k_o + 7) (n_o + 630) w2_o 1847 [(0, .ref b_o), (1, .ref (ad 0)), (2, .ref (bd 25)), (3, .ref aO), (4, .ref aD), (5, .int (iI i_o))] []) : kG E_o X_o 9 k_o n_o w_o 537 [(0, .ref b_o), (1, .ref (ad 0)), (2, .ref (bd 25)), (3, .ref aO), (4, .ref aD), (5, .int (iI i_o))] [] := by
  obtain ⟨x1, hx1⟩ : ∃ z_o, z_o = (xs (i_o + 1).toNat).toInt := ⟨_, rfl⟩
  have hr1 : -2147483648 ≤ x1 ∧ x1 < 2147483648 := by rw [hx1]; exact iI_rg _
  obtain ⟨x2, hx2⟩ : ∃ z_o, z_o = (xs (i_o + 2).toNat).toInt := ⟨_, rfl⟩
  have hr2 : -2147483648 ≤ x2 ∧ x2 < 2147483648 := by rw [hx2]; exact iI_rg _
  obtain ⟨x3, hx3⟩ : ∃ z_o, z_o = (xs (i_o + 3).toNat).toInt := ⟨_, rfl⟩
  have hr3 : -2147483648 ≤ x3 ∧ x3 < 2147483648 := by rw [hx3]; exact iI_rg _
  obtain ⟨x4, hx4⟩ : ∃ z_o, z_o = (xs (i_o + 4).toNat).toInt := ⟨_, rfl⟩
  have hr4 : -2147483648 ≤ x4 ∧ x4 < 2147483648 := by rw [hx4]; exact iI_rg _
  obtain ⟨fs19, h19_o⟩ := hmu.obj
  refine k_aload_n h_o 1 dL_law_537 rfl rfl ?_
  refine k_aload_n h_o 0 dL_law_538 rfl rfl ?_
  refine k_iload h_o 5 dL_law_539 rfl ?_
  refine k_iconst h_o dL_law_541 ?_
  refine k_iadd h_o dL_law_542 ?_
  refine k_sld h_o hsr (x' := x1) (by omega) (by omega) hx1 dL_law_543 ?_
  refine k_aload_n h_o 0 dL_law_544 rfl rfl ?_
  refine k_iload h_o 5 dL_law_545 rfl ?_
  refine k_iconst h_o dL_law_547 ?_
  refine k_iadd h_o dL_law_548 ?_
  refine k_sld h_o hsr (x' := x2) (by omega) (by omega) hx2 dL_law_549 ?_
  refine k_aload_n h_o 3 dL_law_550 rfl rfl ?_
  refine k_callSWN (As := [.ref (ad 0), .int (iI x1), .int (iI x2), .ref aO]) (rest := []) h_o hNc mL_addLetter kq_3_70 (c_L_addLetter hl0 hst hr1 hr2 hO) rfl rfl (Nat.le_of_ble_eq_true rfl) ⟨rfl, rfl, ⟨(Nat.le_of_ble_eq_true rfl), (Nat.le_of_ble_eq_true rfl)⟩, ⟨by show _ ≤ 603072; omega, by show _ ≤ 7215210; omega⟩⟩ dL_law_551 (kcI fun zH w1_o hp => ?_)
  rcases hp with ⟨rfl, z1_o, rfl, e1, hO1, hexP, N2, hsu1⟩ | ⟨rfl, e1, hO1, hexP, hsu1⟩ | ⟨rfl, e1, hO1, hexP, hsu1⟩ | ⟨rfl, e1, hO1, hexP, hsu1⟩
  · have hmu1 := hmu.pl (hexP.sub kP7_Pw)
    obtain ⟨fs19P, h19P⟩ := hmu1.obj
    refine k_istore (lv' := [(6, .int (iI 0)), (0, .ref b_o), (1, .ref (ad 0)), (2, .ref (bd 25)), (3, .ref aO), (4, .ref aD), (5, .int (iI i_o))]) h_o dL_law_554 (by decide) rfl ?_
    refine k_aload_n h_o 3 dL_law_556 rfl rfl ?_
    refine k_aload_n h_o 1 dL_law_557 rfl rfl ?_
    refine k_iload h_o 6 dL_law_558 rfl ?_
    refine k_iconst h_o dL_law_560 ?_
    refine k_iadd h_o dL_law_561 ?_
    refine k_sld h_o hsr (x' := x1) (by omega) (by omega) hx1 dL_law_562 ?_
    refine k_aload_n h_o 1 dL_law_563 rfl rfl ?_
    refine k_iload h_o 6 dL_law_564 rfl ?_
    refine k_iconst h_o dL_law_566 ?_
    refine k_iadd h_o dL_law_567 ?_
    refine k_sld h_o hsr (x' := x2) (by omega) (by omega) hx2 dL_law_568 ?_
    refine k_callV (As := [.int (iI x1), .int (iI x2)]) (rest := []) h_o mX7_addLetter kq_5_16 (c_X7_addLetter hl0 hmu1 hr1 hr2) 19 h19P rfl rfl rfl (Nat.le_of_ble_eq_true rfl) ⟨rfl, rfl, ⟨(Nat.le_of_ble_eq_true rfl), (Nat.le_of_ble_eq_true rfl)⟩, ⟨by show _ ≤ 603072; omega, by show _ ≤ 7215210; omega⟩⟩ dL_law_569 (kcI fun zM w2_o hp => ?_)
    rcases hp with ⟨q1, rfl, hmu2, hexM⟩ | ⟨q1, hmu2, hexM⟩ | ⟨q1, hmu2, hexM⟩ | ⟨q1, hmu2, hexM⟩
    · obtain ⟨fs19M, h19M⟩ := hmu2.obj
      refine k_istore (lv' := [(7, .int (iI ((m_TT g_o nr (kup (lts x1.toNat) (cs x1.toNat).toNat x2) 10 0 (cs x1.toNat + 1 - 1) : Nat) : Int))), (6, .int (iI 0)), (0, .ref b_o), (1, .ref (ad 0)), (2, .ref (bd 25)), (3, .ref aO), (4, .ref aD), (5, .int (iI i_o))]) h_o dL_law_572 (by decide) rfl ?_
      refine k_aload_n h_o 4 dL_law_574 rfl rfl ?_
      refine k_callV (As := []) (rest := []) h_o mX7_thrown kq_4_203 (c_X7_thrown hl0 hmu2) 19 h19M rfl rfl rfl (Nat.le_of_ble_eq_true rfl) ⟨rfl, rfl, ⟨(Nat.le_of_ble_eq_true rfl), (Nat.le_of_ble_eq_true rfl)⟩, ⟨by show _ ≤ 603072; omega, by show _ ≤ 7215210; omega⟩⟩ dL_law_575 (kcI fun z575_o w3_o hp => ?_)
      obtain ⟨rfl, rfl⟩ := hp
      refine k_iload h_o 1 dL_law_578 rfl ?_
      refine k_icmpS h_o 585 dL_law_580 (by decide) ?_
      refine k_iload h_o 1 dL_law_585 rfl ?_
      refine k_ifne h_o 602 (by decide) dL_law_587 (by decide) (fun h587_o => ?_) (fun h587_o => ?_)
      · exfalso; omega
      · refine k_aload_n h_o 5 dL_law_590 rfl rfl ?_
        refine k_iconst h_o dL_law_591 ?_
        refine k_lald h_o 17 ((hexM 17 (by show ¬ (19 ≤ 17 ∧ 17 ≤ 44); omega)).trans hO1) (by decide) (by decide) dL_law_592 ?_
        refine k_topL (z' := m_w ((m_TT g_o nr (kup (lts x1.toNat) (cs x1.toNat).toNat x2) 10 0 (cs x1.toNat + 1 - 1) : Nat) : Int)) kup_eq ?_
        refine k_iload h_o 0 dL_law_593 rfl ?_
        refine k_i2lW h_o dL_law_595 ?_
        refine k_lcmpS h_o dL_law_596 ?_
        refine k_ifeq h_o 602 (by decide) dL_law_597 (by decide) (fun h597_o => ?_) (fun h597_o => ?_)
        · refine k_goto h_o 1847 dL_law_602 (by decide) ?_
          refine k_sub (lv' := [(0, .ref b_o), (1, .ref (ad 0)), (2, .ref (bd 25)), (3, .ref aO), (4, .ref aD), (5, .int (iI i_o))]) [2, 3, 4, 5, 6, 7] rfl ?_
          refine k_wd (k2 := k_o + 7) (n2 := n_o + 630) (by omega) (by omega) ?_
          exact kk _ ⟨_, bd, _, _, _, _, _, _, _, _, _, _, _, _, _, rfl, rfl, ((hexM 17 (by show ¬ (19 ≤ 17 ∧ 17 ≤ 44); omega)).trans hO1), ((hexM 18 (by show ¬ (19 ≤ 18 ∧ 18 ≤ 44); omega)).trans ((hexP 18 (by show ¬ (18 ≤ 17 ∨ 100 ≤ 18); omega)).trans hD)), (hsu1.ox (hexM.sub kMk_Ox)), hmu2⟩
        · exfalso; omega
    · exfalso; (first | omega | exact absurd q1 e1 | exact absurd e1 q1 | exact absurd q1.1 e1 | exact absurd e1 q1.1 | exact absurd e1.1 q1 | exact absurd q1 e1.1 | exact absurd e1.1 q1.1 | exact absurd q1.1 e1.1)
    · exfalso; (first | omega | exact absurd q1 e1 | exact absurd e1 q1 | exact absurd q1.1 e1 | exact absurd e1 q1.1 | exact absurd e1.1 q1 | exact absurd q1 e1.1 | exact absurd e1.1 q1.1 | exact absurd q1.1 e1.1)
    · exfalso; (first | omega | exact absurd q1 e1 | exact absurd e1 q1 | exact absurd q1.1 e1 | exact absurd e1 q1.1 | exact absurd e1.1 q1 | exact absurd q1 e1.1 | exact absurd e1.1 q1.1 | exact absurd q1.1 e1.1)
  · have hmu1 := hmu.pl (hexP.sub kP7_Pw)
    obtain ⟨fs19P, h19P⟩ := hmu1.obj
    refine k_istore (lv' := [(6, .int (iI 1)), (0, .ref b_o), (1, .ref (ad 0)), (2, .ref (bd 25)), (3, .ref aO), (4, .ref aD), (5, .int (iI i_o))]) h_o dL_law_554 (by decide) rfl ?_
    refine k_aload_n h_o 3 dL_law_556 rfl rfl ?_
    refine k_aload_n h_o 1 dL_law_557 rfl rfl ?_
    refine k_iload h_o 6 dL_law_558 rfl ?_
    refine k_iconst h_o dL_law_560 ?_
    refine k_iadd h_o dL_law_561 ?_
    refine k_sld h_o hsr (x' := x1) (by omega) (by omega) hx1 dL_law_562 ?_
    refine k_aload_n h_o 1 dL_law_563 rfl rfl ?_
    refine k_iload h_o 6 dL_law_564 rfl ?_
    refine k_iconst h_o dL_law_566 ?_
    refine k_iadd h_o dL_law_567 ?_
    refine k_sld h_o hsr (x' := x2) (by omega) (by omega) hx2 dL_law_568 ?_
    refine k_callV (As := [.int (iI x1), .int (iI x2)]) (rest := []) h_o mX7_addLetter kq_5_16 (c_X7_addLetter hl0 hmu1 hr1 hr2) 19 h19P rfl rfl rfl (Nat.le_of_ble_eq_true rfl) ⟨rfl, rfl, ⟨(Nat.le_of_ble_eq_true rfl), (Nat.le_of_ble_eq_true rfl)⟩, ⟨by show _ ≤ 603072; omega, by show _ ≤ 7215210; omega⟩⟩ dL_law_569 (kcI fun zM w2_o hp => ?_)
    rcases hp with ⟨q1, rfl, hmu2, hexM⟩ | ⟨q1, hmu2, hexM⟩ | ⟨q1, hmu2, hexM⟩ | ⟨q1, hmu2, hexM⟩
    · exfalso; (first | omega | exact absurd q1 e1 | exact absurd e1 q1 | exact absurd q1.1 e1 | exact absurd e1 q1.1 | exact absurd e1.1 q1 | exact absurd q1 e1.1 | exact absurd e1.1 q1.1 | exact absurd q1.1 e1.1)
    · obtain ⟨fs19M, h19M⟩ := hmu2.obj
      refine k_istore (lv' := [(7, .int (iI zM)), (6, .int (iI 1)), (0, .ref b_o), (1, .ref (ad 0)), (2, .ref (bd 25)), (3, .ref aO), (4, .ref aD), (5, .int (iI i_o))]) h_o dL_law_572 (by decide) rfl ?_
      refine k_aload_n h_o 4 dL_law_574 rfl rfl ?_
      refine k_callV (As := []) (rest := []) h_o mX7_thrown kq_4_203 (c_X7_thrown hl0 hmu2) 19 h19M rfl rfl rfl (Nat.le_of_ble_eq_true rfl) ⟨rfl, rfl, ⟨(Nat.le_of_ble_eq_true rfl), (Nat.le_of_ble_eq_true rfl)⟩, ⟨by show _ ≤ 603072; omega, by show _ ≤ 7215210; omega⟩⟩ dL_law_575 (kcI fun z575_o w3_o hp => ?_)
      obtain ⟨rfl, rfl⟩ := hp
      refine k_iload h_o 1 dL_law_578 rfl ?_
      refine k_icmpS h_o 585 dL_law_580 (by decide) ?_
      refine k_iload h_o 1 dL_law_585 rfl ?_
      refine k_ifne h_o 602 (by decide) dL_law_587 (by decide) (fun h587_o => ?_) (fun h587_o => ?_)
      · refine k_goto h_o 1847 dL_law_602 (by decide) ?_
        refine k_sub (lv' := [(0, .ref b_o), (1, .ref (ad 0)), (2, .ref (bd 25)), (3, .ref aO), (4, .ref aD), (5, .int (iI i_o))]) [2, 3, 4, 5, 6, 7] rfl ?_
        refine k_wd (k2 := k_o + 7) (n2 := n_o + 630) (by omega) (by omega) ?_
        exact kk _ ⟨_, bd, _, _, _, _, _, _, _, _, _, _, _, _, _, rfl, rfl, ((hexM 17 (by show ¬ (19 ≤ 17 ∧ 17 ≤ 44); omega)).trans hO1), ((hexM 18 (by show ¬ (19 ≤ 18 ∧ 18 ≤ 44); omega)).trans ((hexP 18 (by show ¬ (18 ≤ 17 ∨ 100 ≤ 18); omega)).trans hD)), (hsu1.ox (hexM.sub kMk_Ox)), hmu2⟩
      · exfalso; omega
    · exfalso; (first | omega | exact absurd q1 e1 | exact absurd e1 q1 | exact absurd q1.1 e1 | exact absurd e1 q1.1 | exact absurd e1.1 q1 | exact absurd q1 e1.1 | exact absurd e1.1 q1.1 | exact absurd q1.1 e1.1)
    · exfalso; (first | omega | exact absurd q1 e1 | exact absurd e1 q1 | exact absurd q1.1 e1 | exact absurd e1 q1.1 | exact absurd e1.1 q1 | exact absurd q1 e1.1 | exact absurd e1.1 q1.1 | exact absurd q1.1 e1.1)
  · have hmu1 := hmu.pl (hexP.sub kP7_Pw)
    obtain ⟨fs19P, h19P⟩ := hmu1.obj
    refine k_istore (lv' := [(6, .int (iI 2)), (0, .ref b_o), (1, .ref (ad 0)), (2, .ref (bd 25)), (3, .ref aO), (4, .ref aD), (5, .int (iI i_o))]) h_o dL_law_554 (by decide) rfl ?_
    refine k_aload_n h_o 3 dL_law_556 rfl rfl ?_
    refine k_aload_n h_o 1 dL_law_557 rfl rfl ?_
    refine k_iload h_o 6 dL_law_558 rfl ?_
    refine k_iconst h_o dL_law_560 ?_
    refine k_iadd h_o dL_law_561 ?_
    refine k_sld h_o hsr (x' := x1) (by omega) (by omega) hx1 dL_law_562 ?_
    refine k_aload_n h_o 1 dL_law_563 rfl rfl ?_
    refine k_iload h_o 6 dL_law_564 rfl ?_
    refine k_iconst h_o dL_law_566 ?_
    refine k_iadd h_o dL_law_567 ?_
    refine k_sld h_o hsr (x' := x2) (by omega) (by omega) hx2 dL_law_568 ?_
    refine k_callV (As := [.int (iI x1), .int (iI x2)]) (rest := []) h_o mX7_addLetter kq_5_16 (c_X7_addLetter hl0 hmu1 hr1 hr2) 19 h19P rfl rfl rfl (Nat.le_of_ble_eq_true rfl) ⟨rfl, rfl, ⟨(Nat.le_of_ble_eq_true rfl), (Nat.le_of_ble_eq_true rfl)⟩, ⟨by show _ ≤ 603072; omega, by show _ ≤ 7215210; omega⟩⟩ dL_law_569 (kcI fun zM w2_o hp => ?_)
    rcases hp with ⟨q1, rfl, hmu2, hexM⟩ | ⟨q1, hmu2, hexM⟩ | ⟨q1, hmu2, hexM⟩ | ⟨q1, hmu2, hexM⟩
    · exfalso; (first | omega | exact absurd q1 e1 | exact absurd e1 q1 | exact absurd q1.1 e1 | exact absurd e1 q1.1 | exact absurd e1.1 q1 | exact absurd q1 e1.1 | exact absurd e1.1 q1.1 | exact absurd q1.1 e1.1)
    · exfalso; (first | omega | exact absurd q1 e1 | exact absurd e1 q1 | exact absurd q1.1 e1 | exact absurd e1 q1.1 | exact absurd e1.1 q1 | exact absurd q1 e1.1 | exact absurd e1.1 q1.1 | exact absurd q1.1 e1.1)
    · obtain ⟨fs19M, h19M⟩ := hmu2.obj
      refine k_istore (lv' := [(7, .int (iI zM)), (6, .int (iI 2)), (0, .ref b_o), (1, .ref (ad 0)), (2, .ref (bd 25)), (3, .ref aO), (4, .ref aD), (5, .int (iI i_o))]) h_o dL_law_572 (by decide) rfl ?_
      refine k_aload_n h_o 4 dL_law_574 rfl rfl ?_
      refine k_callV (As := []) (rest := []) h_o mX7_thrown kq_4_203 (c_X7_thrown hl0 hmu2) 19 h19M rfl rfl rfl (Nat.le_of_ble_eq_true rfl) ⟨rfl, rfl, ⟨(Nat.le_of_ble_eq_true rfl), (Nat.le_of_ble_eq_true rfl)⟩, ⟨by show _ ≤ 603072; omega, by show _ ≤ 7215210; omega⟩⟩ dL_law_575 (kcI fun z575_o w3_o hp => ?_)
      obtain ⟨rfl, rfl⟩ := hp
      refine k_iload h_o 1 dL_law_578 rfl ?_
      refine k_icmpS h_o 585 dL_law_580 (by decide) ?_
      refine k_iload h_o 1 dL_law_585 rfl ?_
      refine k_ifne h_o 602 (by decide) dL_law_587 (by decide) (fun h587_o => ?_) (fun h587_o => ?_)
      · refine k_goto h_o 1847 dL_law_602 (by decide) ?_
        refine k_sub (lv' := [(0, .ref b_o), (1, .ref (ad 0)), (2, .ref (bd 25)), (3, .ref aO), (4, .ref aD), (5, .int (iI i_o))]) [2, 3, 4, 5, 6, 7] rfl ?_
        refine k_wd (k2 := k_o + 7) (n2 := n_o + 630) (by omega) (by omega) ?_
        exact kk _ ⟨_, bd, _, _, _, _, _, _, _, _, _, _, _, _, _, rfl, rfl, ((hexM 17 (by show ¬ (19 ≤ 17 ∧ 17 ≤ 44); omega)).trans hO1), ((hexM 18 (by show ¬ (19 ≤ 18 ∧ 18 ≤ 44); omega)).trans ((hexP 18 (by show ¬ (18 ≤ 17 ∨ 100 ≤ 18); omega)).trans hD)), (hsu1.ox (hexM.sub kMk_Ox)), hmu2⟩
      · exfalso; omega
    · exfalso; (first | omega | exact absurd q1 e1 | exact absurd e1 q1 | exact absurd q1.1 e1 | exact absurd e1 q1.1 | exact absurd e1.1 q1 | exact absurd q1 e1.1 | exact absurd e1.1 q1.1 | exact absurd q1.1 e1.1)
  · have hmu1 := hmu.pl (hexP.sub kP7_Pw)
    obtain ⟨fs19P, h19P⟩ := hmu1.obj
    refine k_istore (lv' := [(6, .int (iI 3)), (0, .ref b_o), (1, .ref (ad 0)), (2, .ref (bd 25)), (3, .ref aO), (4, .ref aD), (5, .int (iI i_o))]) h_o dL_law_554 (by decide) rfl ?_
    refine k_aload_n h_o 3 dL_law_556 rfl rfl ?_
    refine k_aload_n h_o 1 dL_law_557 rfl rfl ?_
    refine k_iload h_o 6 dL_law_558 rfl ?_
    refine k_iconst h_o dL_law_560 ?_
    refine k_iadd h_o dL_law_561 ?_
    refine k_sld h_o hsr (x' := x1) (by omega) (by omega) hx1 dL_law_562 ?_
    refine k_aload_n h_o 1 dL_law_563 rfl rfl ?_
    refine k_iload h_o 6 dL_law_564 rfl ?_
    refine k_iconst h_o dL_law_566 ?_
    refine k_iadd h_o dL_law_567 ?_
    refine k_sld h_o hsr (x' := x2) (by omega) (by omega) hx2 dL_law_568 ?_
    refine k_callV (As := [.int (iI x1), .int (iI x2)]) (rest := []) h_o mX7_addLetter kq_5_16 (c_X7_addLetter hl0 hmu1 hr1 hr2) 19 h19P rfl rfl rfl (Nat.le_of_ble_eq_true rfl) ⟨rfl, rfl, ⟨(Nat.le_of_ble_eq_true rfl), (Nat.le_of_ble_eq_true rfl)⟩, ⟨by show _ ≤ 603072; omega, by show _ ≤ 7215210; omega⟩⟩ dL_law_569 (kcI fun zM w2_o hp => ?_)
    rcases hp with ⟨q1, rfl, hmu2, hexM⟩ | ⟨q1, hmu2, hexM⟩ | ⟨q1, hmu2, hexM⟩ | ⟨q1, hmu2, hexM⟩
    · exfalso; (first | omega | exact absurd q1 e1 | exact absurd e1 q1 | exact absurd q1.1 e1 | exact absurd e1 q1.1 | exact absurd e1.1 q1 | exact absurd q1 e1.1 | exact absurd e1.1 q1.1 | exact absurd q1.1 e1.1)
    · exfalso; (first | omega | exact absurd q1 e1 | exact absurd e1 q1 | exact absurd q1.1 e1 | exact absurd e1 q1.1 | exact absurd e1.1 q1 | exact absurd q1 e1.1 | exact absurd e1.1 q1.1 | exact absurd q1.1 e1.1)
    · exfalso; (first | omega | exact absurd q1 e1 | exact absurd e1 q1 | exact absurd q1.1 e1 | exact absurd e1 q1.1 | exact absurd e1.1 q1 | exact absurd q1 e1.1 | exact absurd e1.1 q1.1 | exact absurd q1.1 e1.1)
    · obtain ⟨fs19M, h19M⟩ := hmu2.obj
      refine k_istore (lv' := [(7, .int (iI zM)), (6, .int (iI 3)), (0, .ref b_o), (1, .ref (ad 0)), (2, .ref (bd 25)), (3, .ref aO), (4, .ref aD), (5, .int (iI i_o))]) h_o dL_law_572 (by decide) rfl ?_
      refine k_aload_n h_o 4 dL_law_574 rfl rfl ?_
      refine k_callV (As := []) (rest := []) h_o mX7_thrown kq_4_203 (c_X7_thrown hl0 hmu2) 19 h19M rfl rfl rfl (Nat.le_of_ble_eq_true rfl) ⟨rfl, rfl, ⟨(Nat.le_of_ble_eq_true rfl), (Nat.le_of_ble_eq_true rfl)⟩, ⟨by show _ ≤ 603072; omega, by show _ ≤ 7215210; omega⟩⟩ dL_law_575 (kcI fun z575_o w3_o hp => ?_)
      obtain ⟨rfl, rfl⟩ := hp
      refine k_iload h_o 1 dL_law_578 rfl ?_
      refine k_icmpS h_o 585 dL_law_580 (by decide) ?_
      refine k_iload h_o 1 dL_law_585 rfl ?_
      refine k_ifne h_o 602 (by decide) dL_law_587 (by decide) (fun h587_o => ?_) (fun h587_o => ?_)
      · refine k_goto h_o 1847 dL_law_602 (by decide) ?_
        refine k_sub (lv' := [(0, .ref b_o), (1, .ref (ad 0)), (2, .ref (bd 25)), (3, .ref aO), (4, .ref aD), (5, .int (iI i_o))]) [2, 3, 4, 5, 6, 7] rfl ?_
        refine k_wd (k2 := k_o + 7) (n2 := n_o + 630) (by omega) (by omega) ?_
        exact kk _ ⟨_, bd, _, _, _, _, _, _, _, _, _, _, _, _, _, rfl, rfl, ((hexM 17 (by show ¬ (19 ≤ 17 ∧ 17 ≤ 44); omega)).trans hO1), ((hexM 18 (by show ¬ (19 ≤ 18 ∧ 18 ≤ 44); omega)).trans ((hexP 18 (by show ¬ (18 ≤ 17 ∨ 100 ≤ 18); omega)).trans hD)), (hsu1.ox (hexM.sub kMk_Ox)), hmu2⟩
      · exfalso; omega
