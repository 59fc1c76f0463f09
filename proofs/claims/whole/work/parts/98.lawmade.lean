/-! the law begins: the world that the tables give, then the two objects made -/
set_option maxHeartbeats 4000000 in
theorem lw_world {s : State} {b : Nat} (hts : ∀ w ∈ lw_tbl, w.before #[Value.ref b] s = true) : ∃ w : ih_Wd, ih_K w s ∧ ih_E1 s := by
  obtain ⟨c0, i0, k0⟩ := u_known (C := RX0) (T := TX0) (N := 2) (n := 2) hts inX0 (hts (.instantiable RX0 2) (List.mem_of_getElem? (i := 264) (by decide +kernel)))
  obtain ⟨c1, i1, k1⟩ := u_known (C := RX1) (T := TX1) (N := 2) (n := 2) hts inX1 (hts (.instantiable RX1 2) (List.mem_of_getElem? (i := 126) (by decide +kernel)))
  obtain ⟨c2, i2, k2⟩ := u_known (C := RX2) (T := TX2) (N := 9) (n := 9) hts inX2 (hts (.instantiable RX2 9) (List.mem_of_getElem? (i := 166) (by decide +kernel)))
  obtain ⟨c3, i3, k3⟩ := u_known (C := RX3) (T := TX3) (N := 6) (n := 6) hts inX3 (hts (.instantiable RX3 6) (List.mem_of_getElem? (i := 238) (by decide +kernel)))
  obtain ⟨c4, i4, k4⟩ := u_known (C := RX4) (T := TX4) (N := 8) (n := 8) hts inX4 (hts (.instantiable RX4 8) (List.mem_of_getElem? (i := 203) (by decide +kernel)))
  obtain ⟨c5, i5, k5⟩ := u_known (C := RX5) (T := TX5) (N := 4) (n := 4) hts inX5 (hts (.instantiable RX5 4) (List.mem_of_getElem? (i := 81) (by decide +kernel)))
  obtain ⟨c6, i6, k6⟩ := u_known (C := RX6) (T := TX6) (N := 2) (n := 2) hts inX6 (hts (.instantiable RX6 2) (List.mem_of_getElem? (i := 106) (by decide +kernel)))
  obtain ⟨c7, i7, k7⟩ := u_known (C := RX7) (T := TX7) (N := 9) (n := 9) hts inX7 (hts (.instantiable RX7 9) (List.mem_of_getElem? (i := 72) (by decide +kernel)))
  obtain ⟨c8, i8, k8⟩ := u_known (C := RX8) (T := TX8) (N := 22) (n := 22) hts inX8 (hts (.instantiable RX8 22) (List.mem_of_getElem? (i := 710) (by decide +kernel)))
  obtain ⟨dI, kI, pI, aI1, aI2, aI3⟩ := Cond.arrayClass_spec (type := .int) (hts (.arrayClass .int) (List.mem_of_getElem? (i := 103) (by decide +kernel)))
  obtain ⟨dL, kL, pL, aL1, aL2, aL3⟩ := Cond.arrayClass_spec (type := .long) (hts (.arrayClass .long) (List.mem_of_getElem? (i := 201) (by decide +kernel)))
  have ho5 := hts (.arrayOver (.object RX5)) (List.mem_of_getElem? (i := 80) (by decide +kernel))
  have ho6 := hts (.arrayOver (.object RX6)) (List.mem_of_getElem? (i := 105) (by decide +kernel))
  obtain ⟨p5, d5, q5, a51, -, a52, a53, a54⟩ := Cond.arrayOver_spec ho5
  obtain ⟨p6, d6, q6, a61, -, a62, a63, a64⟩ := Cond.arrayOver_spec ho6
  refine ⟨((fun k => match k with | 0 => c0 | 1 => c1 | 2 => c2 | 3 => c3 | 4 => c4 | 5 => c5 | 6 => c6 | 7 => c7 | _ => c8, fun k => match k with | 0 => i0 | 1 => i1 | 2 => i2 | 3 => i3 | 4 => i4 | 5 => i5 | 6 => i6 | 7 => i7 | _ => i8), (fun k => match k with | 0 => dI | 1 => dL | 2 => d5 | _ => d6), fun _ => 0), ⟨⟨?_, ?_⟩, va_Nw.of rfl (hts (.methodLinkNest RX7 15 yX5_init RX7) (List.mem_of_getElem? (i := 82) (by decide +kernel))), va_Nw.of rfl (hts (.methodLinkNest RX7 22 yX6_init RX7) (List.mem_of_getElem? (i := 107) (by decide +kernel))), va_Nw.of rfl (hts (.methodLinkNest RX7 61 yX0_init RX7) (List.mem_of_getElem? (i := 265) (by decide +kernel))), va_Nw.of rfl (hts (.methodLinkNest RX3 43 yX7_within RX7) (List.mem_of_getElem? (i := 605) (by decide +kernel))), va_Nw.of rfl (hts (.methodLinkNest RX7 217 yX0_sizeOf RX7) (List.mem_of_getElem? (i := 642) (by decide +kernel))), va_Nw.of rfl (hts (.methodLinkNest RX7 221 yX0_markOf RX7) (List.mem_of_getElem? (i := 688) (by decide +kernel)))⟩, va_AO.of ho5, va_AO.of ho6⟩
  · intro k q hq
    match k, hq with
    | 0, hq => cases hq; exact k0
    | 1, hq => cases hq; exact k1
    | 2, hq => cases hq; exact k2
    | 3, hq => cases hq; exact k3
    | 4, hq => cases hq; exact k4
    | 5, hq => cases hq; exact k5
    | 6, hq => cases hq; exact k6
    | 7, hq => cases hq; exact k7
    | 8, hq => cases hq; exact k8
    | k + 9, hq => simp at hq
  · intro k q hq
    match k, hq with
    | 0, hq => cases hq; exact ⟨fun n z => ⟨fun k h => (by cases h), kI, aI2, pI, aI3⟩, aI1⟩
    | 1, hq => cases hq; exact ⟨fun n z => ⟨fun k h => (by cases h), kL, aL2, pL, aL3⟩, aL1⟩
    | 2, hq => cases hq; exact ⟨fun n z => ⟨fun k h => (by cases h), q5, a52, p5, a53⟩, q5, p5, a52, a53, a51, a54⟩
    | 3, hq => cases hq; exact ⟨fun n z => ⟨fun k h => (by cases h), q6, a62, p6, a63⟩, q6, p6, a62, a63, a61, a64⟩
    | k + 4, hq => simp at hq
theorem ih_vg_0 : ih_vg ih_S0 0 := ⟨fun _ _ => ⟨rfl, rfl, rfl⟩, fun _ _ _ h => by cases h⟩
set_option maxHeartbeats 4000000 in
theorem lw_made {x : ih_Cx} {w0 : ih_Wd} {A : Nat → Prop} {Q : State → Prop} {rr : Option FieldType} {b L : Nat} {xs : Nat → Int32} (C : ih_Ok x w0 A cL_law 4 RL wsL_law room_1 rr) (hE : ih_E1 x.2.2.2.2.1) (hX : va_X b L xs x.2.2.2.2.1 x.2.2.2.2.1.heap) (hbl : b < x.2.2.2.2.1.heap.size) (hbA : ¬ A b) (hL : L ≤ 3584) (kt : ∀ (wX wM : ih_Wd) (SX SM : ih_Sg) (i : Nat), ih_Mg x (ih_P2 wX wM A SX SM) A Q 4 76 154227 1128 (lw_L wX wM b i) []) : ih_Mw x w0 (ih_shN ih_shX 0) A Q 4 0 0 0 [(0, .ref b)] [] ih_S0 := by
  refine s_newO (n := 0) (ci := 7) (N := 9) C ih_vg_0 rfl (by decide) rfl inlX7 tyX7 tyX7_ok df_X7 (by decide +kernel) (by decide +kernel) (by decide +kernel) (by decide +kernel) dL_law_0 ?_
  intro w ea1 ea2 _
  replace C := ih_Ok_w ea1 ea2 C
  refine s_dup C dL_law_3 rfl ?_
  refine s_callI 0 C (c_X7_init _ w) ih_E1_ok hE gL_law_X7_init rfl (by decide +kernel) (by decide +kernel) (by decide +kernel) rfl (by decide +kernel) (by decide +kernel) (by decide +kernel) rfl rfl (Nat.le_of_ble_eq_true rfl) dL_law_4 ?_
  intro w1 S1 eb1 eb2 hag1 hpost
  obtain ⟨hRX, hv⟩ := hpost
  replace hRX : ih_RX S1 ih_T0 := hRX
  replace hv : ih_vg S1 62 := hv
  replace C := ih_Ok_w eb1 eb2 C
  rw [hag1 0 (by omega)]
  refine s_astore_n C dL_law_7 rfl (by decide) rfl ?_
  refine s_shc (sh' := ih_sh2) (n := 62) ih_sh2_X ?_
  refine s_newO (n := 62) (ci := 8) (N := 22) C hv rfl (by decide) rfl inlX8 tyX8 tyX8_ok df_X8 (by decide +kernel) (by decide +kernel) (by decide +kernel) (by decide +kernel) dL_law_8 ?_
  intro w2 ec1 ec2 hag2
  replace C := ih_Ok_w ec1 ec2 C
  rw [hag2 0 (by omega)]
  refine s_dup C dL_law_11 rfl ?_
  refine s_callI 0 C (c_X8_init2 _ w2 S1 (vg_up hv (by omega))) ih_E0_ok trivial gL_law_X8_init rfl (by decide +kernel) (by decide +kernel) (by decide +kernel) rfl (by decide +kernel) (by decide +kernel) (by decide +kernel) rfl rfl (Nat.le_of_ble_eq_true rfl) dL_law_12 ?_
  intro w3 S3 ed1 ed2 hag3 hpost
  replace hpost : S3 = ih_SM S1 := hpost
  subst hpost
  replace C := ih_Ok_w ed1 ed2 C
  rw [hag3 0 (by omega), hag3 62 (by omega)]
  refine s_astore_n C dL_law_15 rfl (by decide) rfl ?_
  refine s_iconst C (v := nI 0) dL_law_16 (by decide +kernel) ?_
  refine s_istore_n C dL_law_17 rfl (by decide) rfl ?_
  intro H locs ls hP hD hS hl
  rw [ih_wl_two (ih_SM_hi hv)] at hP hD
  have hlp := lw_loop (wX := w3) (wM := ih_wM w3) C rfl rfl hX hbl hbA hL (kt w3 (ih_wM w3)) L 0 (ih_SM S1) (ih_sM (ih_SM S1)) ih_T0 (by omega) (by omega) ih_Inv_0 (ih_RX_lt hRX (fun k hk => (ih_SM_lt hk).1) (fun k hk => (ih_SM_lt hk).2)) (ih_RM_0 hv)
  exact hlp H locs ls ⟨hP, hD⟩ hS (lv_sub hl [3, 2, 1, 0] rfl)
