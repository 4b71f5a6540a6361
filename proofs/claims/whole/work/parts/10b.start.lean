/-! THE START: the environment out of the tables' words. Mine. -/
theorem kwl_J0 : ∀ w ∈ u_ws RJ0 TJ0 2, w ∈ kAL := by
  intro w h
  obtain ⟨k, hk, rfl⟩ := List.mem_map.mp h
  have hk := List.mem_range.mp hk
  match k, hk with
  | 0, _ => exact kq_3_102
  | 1, _ => exact kq_3_104
  | k + 2, hk => exact absurd hk (by omega)
theorem kwl_Jx00060 : ∀ w ∈ u_ws RJx00060 TJx00060 6, w ∈ kAL := by
  intro w h
  obtain ⟨k, hk, rfl⟩ := List.mem_map.mp h
  have hk := List.mem_range.mp hk
  match k, hk with
  | 0, _ => exact kq_3_89
  | 1, _ => exact kq_3_90
  | 2, _ => exact kq_3_91
  | 3, _ => exact kq_3_92
  | 4, _ => exact kq_3_93
  | 5, _ => exact kq_3_94
  | k + 6, hk => exact absurd hk (by omega)
def m_sel {α : Type} (l : List α) (d : α) : Nat → α := fun k => l.getD k d
theorem kArr {s : State} {ty : FieldType} {c : ClassId} {k : Class} {comp : ClassId} (h2 : s.vm.classes[c]? = some k) (h3 : k.kind = .array comp ty) : ArrOfT s c ty := fun _ _ => ⟨fun _ h => (by cases h), k, h2, comp, h3⟩
set_option maxRecDepth 20000 in
set_option maxHeartbeats 4000000 in
theorem kLenv {s : State} {b : Nat} (hts : ∀ w ∈ lw_tbl, w.before #[Value.ref b] s = true) (hgv : (Jvm.Cond.and given_1 narrow_1).before #[Value.ref b] s = true) : ∃ E : kE, E.2.2 = s.heap.size ∧ kEnv E s ∧ kNc s := by
  have hA : ∀ w ∈ kAL, w.before #[Value.ref b] s = true := fun w h => hts w (kAL_tbl w h)
  have hfl := flat_of_before _ hgv
  obtain ⟨c0, i0, u0⟩ := u_known (C := RJ0) (T := TJ0) (N := 2) (n := 4) hA kwl_J0 (hA _ kq_3_100)
  obtain ⟨c1, i1, u1⟩ := u_known (C := RJx00060) (T := TJx00060) (N := 6) (n := 6) hA kwl_Jx00060 (hA _ kq_3_74)
  obtain ⟨c2, i2, u2⟩ := u_known (C := RX0) (T := TX0) (N := 2) (n := 2) hA kwl_X0 (hA _ kq_1_31)
  obtain ⟨c3, i3, u3⟩ := u_known (C := RX1) (T := TX1) (N := 11) (n := 11) hA kwl_X1 (hA _ kq_1_71)
  obtain ⟨c4, i4, u4⟩ := u_known (C := RX2) (T := TX2) (N := 9) (n := 9) hA kwl_X2 (hA _ kq_2_152)
  obtain ⟨c5, i5, u5⟩ := u_known (C := RX3) (T := TX3) (N := 3) (n := 3) hA kwl_X3 (hA _ kq_1_51)
  obtain ⟨c6, i6, u6⟩ := u_known (C := RX4) (T := TX4) (N := 3) (n := 3) hA kwl_X4 (hA _ kq_3_39)
  obtain ⟨c7, i7, u7⟩ := u_known (C := RX5) (T := TX5) (N := 1) (n := 1) hA kwl_X5 (hA _ kq_1_115)
  obtain ⟨c8, i8, u8⟩ := u_known (C := RX6) (T := TX6) (N := 8) (n := 8) hA kwl_X6 (hA _ kq_1_23)
  obtain ⟨c9, i9, u9⟩ := u_known (C := RX7) (T := TX7) (N := 25) (n := 25) hA kwl_X7 (hA _ kq_4_120)
  obtain ⟨a0, x0, y0, f0, g0, h0⟩ := Cond.arrayClass_spec (hA _ kq_1_69)
  obtain ⟨a1, x1, y1, f1, g1, h1⟩ := Cond.arrayClass_spec (hA _ kq_4_201)
  obtain ⟨a2, x2, y2, f2, g2, h2⟩ := Cond.arrayClass_spec (hA _ kq_4_202)
  obtain ⟨a3, x3, y3, f3, g3, h3⟩ := Cond.arrayClass_spec (hA _ kq_5_180)
  obtain ⟨a4, x4, y4, f4, g4, h4⟩ := Cond.arrayClass_spec (hA _ kq_5_181)
  obtain ⟨y5, a5, x5, e5, -, g5, h5, f5⟩ := Cond.arrayOver_spec (hts _ kq_1_37)
  obtain ⟨y6, a6, x6, e6, -, g6, h6, f6⟩ := Cond.arrayOver_spec (hts _ kq_1_49)
  refine ⟨((m_sel [c0, c1, c2, c3, c4, c5, c6, c7, c8, c9] c0, m_sel [i0, i1, i2, i3, i4, i5, i6, i7, i8, i9] i0), m_sel [a0, a1, a2, a3, a4, a5, a6] a0, s.heap.size), rfl, ⟨⟨?_, ?_⟩, ?_, va_AO.of (hts _ kq_1_37), va_AO.of (hts _ kq_1_49), ?_, ?_, Nat.le_refl _⟩, ?_⟩
  · intro k q hq
    match k, hq with
    | 0, hq => cases hq; exact u0
    | 1, hq => cases hq; exact u1
    | 2, hq => cases hq; exact u2
    | 3, hq => cases hq; exact u3
    | 4, hq => cases hq; exact u4
    | 5, hq => cases hq; exact u5
    | 6, hq => cases hq; exact u6
    | 7, hq => cases hq; exact u7
    | 8, hq => cases hq; exact u8
    | 9, hq => cases hq; exact u9
    | k + 10, hq => exact absurd hq (by simp)
  · intro k q hq
    match k, hq with
    | 0, hq => cases hq; exact ⟨kArr g0 h0, f0⟩
    | 1, hq => cases hq; exact ⟨kArr g1 h1, f1⟩
    | 2, hq => cases hq; exact ⟨kArr g2 h2, f2⟩
    | 3, hq => cases hq; exact ⟨kArr g3 h3, f3⟩
    | 4, hq => cases hq; exact ⟨kArr g4 h4, f4⟩
    | 5, hq => cases hq; exact ⟨kArr g5 h5, x5, y5, g5, h5, e5, f5⟩
    | 6, hq => cases hq; exact ⟨kArr g6 h6, x6, y6, g6, h6, e6, f6⟩
    | k + 7, hq => exact absurd hq (by simp [kT])
  · intro w hw
    have hs := (List.mem_filter.mp hw).2
    exact va_Nw.of (by cases w <;> first | rfl | cases hs) (hts w (List.mem_filter.mp hw).1)
  · exact vx_Zqof (hts _ kq_2_91) (hA _ kq_1_7) (hfl _ (by decide +kernel)) (fun a h1 h2 => Nat.not_lt.mpr h2 h1)
  · exact vx_Zqof (hts _ kq_2_93) (hA _ kq_1_7) (hfl _ (by decide +kernel)) (fun a h1 h2 => Nat.not_lt.mpr h2 h1)
  · intro q hq
    unfold kNL at hq
    simp only [List.mem_cons, List.not_mem_nil, or_false] at hq
    rcases hq with rfl | rfl | rfl | rfl | rfl | rfl | rfl | rfl
    · exact va_Nc.of (hfl _ (by decide +kernel))
    · exact va_Nc.of (hfl _ (by decide +kernel))
    · exact va_Nc.of (hfl _ (by decide +kernel))
    · exact va_Nc.of (hfl _ (by decide +kernel))
    · exact va_Nc.of (hfl _ (by decide +kernel))
    · exact va_Nc.of (hfl _ (by decide +kernel))
    · exact va_Nc.of (hfl _ (by decide +kernel))
    · exact va_Nc.of (hfl _ (by decide +kernel))
