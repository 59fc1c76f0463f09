theorem ih_st_0 {cs : Nat → Nat → Nat} {L : Nat} : ih_st cs 0 L = (if 9 < L then 1000000 else if L = 9 then 500000 else 0) := by rw [ih_st]
theorem ih_RX_ca {S : ih_Sg} {T : ih_TT} (h : ih_RX S T) {k a : Nat} (hk : k < 12) (ha : a < 7) : (if a = 6 then S.1 (19 + 2 * k) 1 else S.1 (20 + 2 * k) a) = T 4 (7 * k + a) := by
  by_cases h6 : a = 6
  · subst h6; rw [if_pos rfl]; exact (h.2.2.2.2.2.1 k hk).2
  · rw [if_neg h6]; exact (h.2.2.2.2.2.1 k hk).1 a (by omega)
theorem ih_RX_c {S : ih_Sg} {T : ih_TT} (h : ih_RX S T) (hI : ih_Inv T) {k : Nat} (hk : k < ih_ct T) : ∀ a, a < 6 → S.1 (20 + 2 * k) a = nI (ih_ch T k a) ∧ ih_ch T k a ≤ 1000 := fun a ha => ⟨((h.2.2.2.2.2.1 k (by have := hI.2.1.2.1; omega)).1 a ha).trans (ih_Inv_c hI hk a (by omega)).1, (ih_Inv_c hI hk a (by omega)).2⟩
theorem ih_RX_6 {S : ih_Sg} {T : ih_TT} (h : ih_RX S T) (hI : ih_Inv T) {k : Nat} (hk : k < ih_ct T) : S.1 (19 + 2 * k) 1 = nI (ih_ch T k 6) ∧ ih_ch T k 6 ≤ 1000 := ⟨((h.2.2.2.2.2.1 k (by have := hI.2.1.2.1; omega)).2).trans (ih_Inv_c hI hk 6 (by omega)).1, (ih_Inv_c hI hk 6 (by omega)).2⟩
theorem ih_RX_ct {S : ih_Sg} {T : ih_TT} (h : ih_RX S T) (hI : ih_Inv T) : S.1 0 2 = nI (ih_ct T) := h.2.2.2.1.trans hI.2.1.1
theorem ih_RX_pl {S : ih_Sg} {T : ih_TT} (h : ih_RX S T) (hI : ih_Inv T) : S.1 46 3 = nI (ih_pl T) := h.2.2.2.2.2.2.1.1.trans hI.2.2.1.1
theorem ih_RX_tm {S : ih_Sg} {T : ih_TT} (h : ih_RX S T) {t : Nat} (ht : t < 2) (v : Int32) : ih_RX (ih_sI (ih_sI S 54 t v) 53 4 (nI 0)) (ih_u2 T 9 t v) := by
  obtain ⟨g1, g2, g3, g4, g5, g6, g7, g8, g9, g10, g11⟩ := h
  refine ⟨g1, g2, g3, g4, rx_s_c g5 (fun s hs => ⟨(ih_u2_row (by omega)).trans (ih_u2_row (by omega)), (ih_u2_row (by omega)).trans (ih_u2_row (by omega))⟩) ⟨rfl, rfl, rfl⟩, rx_k_c g6 (fun s hs => ⟨(ih_u2_row (by omega)).trans (ih_u2_row (by omega)), (ih_u2_row (by omega)).trans (ih_u2_row (by omega))⟩) rfl, g7, fun q hq => ?_, g9, g10, ?_⟩
  · show ih_u2 S.1 54 t v 54 q = ih_u2 T 9 t v 9 q
    by_cases he : q = t
    · rw [he, ih_u2_s, ih_u2_s]
    · rw [ih_u2_j he, ih_u2_j he]; exact g8 q hq
  · obtain ⟨kh, a, b, c, d⟩ := g11
    exact ⟨0, by decide, rfl, fun L hL => by have hz := c L hL; rw [ih_st_0] at hz ⊢; exact hz, fun q => absurd q (Nat.lt_irrefl 0)⟩
set_option maxHeartbeats 4000000 in
set_option maxRecDepth 100000 in
theorem c_X7_chance (l : Launch) (w : ih_Wd) (S : ih_Sg) (T : ih_TT) (hX : ih_RX S T) (hI : ih_Inv T) (k a : Int32) : ih_Ci l yX7_chance wsX7_chance 2 w ih_shX [.ref (w.2.2 0), .int k, .int a] S (fun r S' => r = sp_chance T k a ∧ ih_RX S' T) := by
  refine ih_bodyi (ret := some .int) rfl rfl (Nat.le_of_ble_eq_true rfl) ?_
  intro x A hA C
  have C : ih_Ok x w A cX7_chance 3 RX7 wsX7_chance (ih_rm 2) (some .int) := C
  show ih_Mw x w ih_shX A (ih_Qi x w ih_shX A _) 3 0 0 0 [(0, .ref (w.2.2 0)), (1, .int k), (2, .int a)] [] S
  have hct : ih_ct T ≤ 12 := hI.2.1.2.1
  have hp := hX.1
  refine s_aload_n C 0 dX7_chance_0 rfl ?_
  refine s_iload_n C 1 dX7_chance_1 rfl ?_
  refine s_callVi 1 C (c_X7_isStriker _ w _ (ih_ct T) hct (ih_RX_ct hX hI) _) gX7_chance_X7_isStriker rfl (by decide +kernel) (by decide) (by decide) (by decide) rfl (by decide) rfl rfl rfl (Nat.le_of_ble_eq_true rfl) dX7_chance_2 ?_
  rintro rk2 S2 ⟨hrk2, hSS⟩
  obtain rfl := hSS.symm
  refine s_if_eq C 18 dX7_chance_5 (by decide) (fun h5 => ?_) (fun h5 => ?_)
  · replace h5 := ih_b0 hrk2 h5
    refine s_ldc (v := (-1000001)) C (by decide +kernel) dX7_chance_18 ?_
    exact s_ireturn C hA dX7_chance_20 (by rw [sp_chance, if_neg (by omega)]; exact ⟨rfl, hX⟩)
  · replace h5 := ih_b1 hrk2 h5
    refine s_iload_n C 2 dX7_chance_8 rfl ?_
    refine s_iconst (v := nI 0) C dX7_chance_9 (by decide) ?_
    refine s_bipush (v := nI 6) C dX7_chance_10 (by decide) ?_
    refine s_callSi 3 C (c_X7_within _ w _ _ _ _ _) gX7_chance_X7_within rfl (by decide +kernel) (by decide) (by decide) rfl rfl (Nat.le_of_ble_eq_true rfl) dX7_chance_12 ?_
    rintro rw12 S2 ⟨hrw12, hSS⟩
    obtain rfl := hSS.symm
    rw [ih_t (by decide), ih_t (by decide)] at hrw12
    refine s_if_ne C 21 dX7_chance_15 (by decide) (fun h15 => ?_) (fun h15 => ?_)
    · replace h15 := ih_b1 hrw12 h15
      obtain ⟨kn, hkn, rfl, hknt⟩ := ih_nat (a := k) h5.1
      have hkn12 : kn < 12 := by omega
      have hkct : kn < ih_ct T := by omega
      obtain ⟨an, han, rfl, hant⟩ := ih_nat (a := a) h15.1
      have hanb : an < 7 := by omega
      refine s_aload_n C 0 dX7_chance_21 rfl ?_
      refine s_getR C 7 1 (hp _ _ _ rfl) (by decide) rfl (by decide) rfl (fun _ h => List.mem_cons_of_mem _ (List.mem_append_left _ (List.mem_append_right _ h))) (by decide) rfl (by decide +kernel) dX7_chance_22 ?_
      refine s_iload_n C 1 dX7_chance_25 rfl ?_
      refine s_aaload C 12 (kn) (hp _ _ _ (ih_pX_st hkn12)) rfl rfl (by omega) (by decide) (by decide) rfl (by decide) dX7_chance_26 ?_
      refine s_iload_n C 2 dX7_chance_27 rfl ?_
      refine s_callVi 1 C (c_X6_chanceOrSteals _ w _ hp kn hkn12 an (by omega)) gX7_chance_X6_chanceOrSteals rfl (by decide +kernel) (by decide) (by decide) (by show 19 + 2 * kn < 62; omega) (ih_kX_st hkn12) (by decide) rfl rfl rfl (Nat.le_of_ble_eq_true rfl) dX7_chance_28 ?_
      rintro rr S2 ⟨hrr, hSS⟩
      obtain rfl := hSS.symm
      exact s_ireturn C hA dX7_chance_31 (by rw [sp_chance, if_pos (by omega), ih_n_nI hkn, ih_n_nI han]; exact ⟨hrr.trans (ih_RX_ca hX hkn12 (by omega)), hX⟩)
    · replace h15 := ih_b0 hrw12 h15
      refine s_ldc (v := (-1000001)) C (by decide +kernel) dX7_chance_18 ?_
      exact s_ireturn C hA dX7_chance_20 (by rw [sp_chance, if_neg (by omega)]; exact ⟨rfl, hX⟩)

set_option maxHeartbeats 4000000 in
set_option maxRecDepth 100000 in
theorem c_X7_striking (l : Launch) (w : ih_Wd) (S : ih_Sg) (T : ih_TT) (hX : ih_RX S T) (hI : ih_Inv T) (p : Int32) : ih_Ci l yX7_striking wsX7_striking 2 w ih_shX [.ref (w.2.2 0), .int p] S (fun r S' => r = sp_striking T p ∧ ih_RX S' T) := by
  refine ih_bodyi (ret := some .int) rfl rfl (Nat.le_of_ble_eq_true rfl) ?_
  intro x A hA C
  have C : ih_Ok x w A cX7_striking 2 RX7 wsX7_striking (ih_rm 2) (some .int) := C
  show ih_Mw x w ih_shX A (ih_Qi x w ih_shX A _) 2 0 0 0 [(0, .ref (w.2.2 0)), (1, .int p)] [] S
  have hct : ih_ct T ≤ 12 := hI.2.1.2.1
  have hp := hX.1
  have hpl : ih_pl T ≤ 9 := hI.2.2.1.2.1
  refine s_iload_n C 1 dX7_striking_0 rfl ?_
  refine s_ldc (v := (-1000000)) C (by decide +kernel) dX7_striking_1 ?_
  refine s_icmp_ne C 14 dX7_striking_3 (by decide) (fun h3 => ?_) (fun h3 => ?_)
  · refine s_aload_n C 0 dX7_striking_14 rfl ?_
    refine s_iload_n C 1 dX7_striking_15 rfl ?_
    refine s_callVi 1 C (c_X7_isPlace _ w _ hp (ih_pl T) (by omega) (ih_RX_pl hX hI) _) gX7_striking_X7_isPlace rfl (by decide +kernel) (by decide) (by decide) (by decide) rfl (by decide) rfl rfl rfl (Nat.le_of_ble_eq_true rfl) dX7_striking_16 ?_
    rintro rp S2 ⟨hrp, hSS⟩
    obtain rfl := hSS.symm
    refine s_if_eq C 34 dX7_striking_19 (by decide) (fun h19 => ?_) (fun h19 => ?_)
    · replace h19 := ih_b0 hrp h19
      refine s_ldc (v := (-1000001)) C (by decide +kernel) dX7_striking_34 ?_
      exact s_ireturn C hA dX7_striking_36 (by rw [sp_striking, if_neg h3, if_neg (by omega)]; exact ⟨rfl, hX⟩)
    · replace h19 := ih_b1 hrp h19
      obtain ⟨pn, hpn, rfl, hpnt⟩ := ih_nat (a := p) h19.1
      have hpnb : pn < 9 := by omega
      refine s_aload_n C 0 dX7_striking_22 rfl ?_
      refine s_getR C 7 4 (hp _ _ _ rfl) (by decide) rfl (by decide) rfl (fun _ h => List.mem_cons_of_mem _ (List.mem_append_left _ (List.mem_append_right _ h))) (by decide) rfl (by decide +kernel) dX7_striking_23 ?_
      refine s_getR C 2 2 (hp _ _ _ rfl) (by decide) rfl (by decide) rfl (fun _ h => List.mem_cons_of_mem _ (List.mem_append_right _ h)) (by decide) rfl (by decide +kernel) dX7_striking_26 ?_
      refine s_iload_n C 1 dX7_striking_29 rfl ?_
      refine s_iaload C 9 (pn) rfl rfl (by omega) (by decide) (by decide) rfl dX7_striking_30 ?_
      refine s_toe (b := T 5 pn) (hX.2.2.2.2.2.2.1.2 pn (by omega)) ?_
      refine s_goto C 36 dX7_striking_31 (by decide) ?_
      exact s_ireturn C hA dX7_striking_36 (by rw [sp_striking, if_neg h3, if_pos (by omega), ih_n_nI hpn]; exact ⟨rfl, hX⟩)
  · refine s_aload_n C 0 dX7_striking_6 rfl ?_
    refine s_getR C 7 4 (hp _ _ _ rfl) (by decide) rfl (by decide) rfl (fun _ h => List.mem_cons_of_mem _ (List.mem_append_left _ (List.mem_append_right _ h))) (by decide) rfl (by decide +kernel) dX7_striking_7 ?_
    refine s_getI C 2 3 (by decide) rfl (by decide) rfl (fun _ h => List.mem_cons_of_mem _ (List.mem_append_right _ h)) (by decide) rfl (by decide +kernel) dX7_striking_10 ?_
    refine s_toe (b := T 0 7) hX.2.2.2.2.2.2.1.1 ?_
    exact s_ireturn C hA dX7_striking_13 (by rw [sp_striking, if_pos h3]; exact ⟨rfl, hX⟩)

set_option maxHeartbeats 4000000 in
set_option maxRecDepth 100000 in
theorem c_X7_kind (l : Launch) (w : ih_Wd) (S : ih_Sg) (T : ih_TT) (hX : ih_RX S T) (hI : ih_Inv T) (k : Int32) : ih_Ci l yX7_kind wsX7_kind 2 w ih_shX [.ref (w.2.2 0), .int k] S (fun r S' => r = sp_kind T k ∧ ih_RX S' T) := by
  refine ih_bodyi (ret := some .int) rfl rfl (Nat.le_of_ble_eq_true rfl) ?_
  intro x A hA C
  have C : ih_Ok x w A cX7_kind 2 RX7 wsX7_kind (ih_rm 2) (some .int) := C
  show ih_Mw x w ih_shX A (ih_Qi x w ih_shX A _) 2 0 0 0 [(0, .ref (w.2.2 0)), (1, .int k)] [] S
  have hct : ih_ct T ≤ 12 := hI.2.1.2.1
  have hp := hX.1
  refine s_aload_n C 0 dX7_kind_0 rfl ?_
  refine s_iload_n C 1 dX7_kind_1 rfl ?_
  refine s_callVi 1 C (c_X7_isStriker _ w _ (ih_ct T) hct (ih_RX_ct hX hI) _) gX7_kind_X7_isStriker rfl (by decide +kernel) (by decide) (by decide) (by decide) rfl (by decide) rfl rfl rfl (Nat.le_of_ble_eq_true rfl) dX7_kind_2 ?_
  rintro rk2 S2 ⟨hrk2, hSS⟩
  obtain rfl := hSS.symm
  refine s_if_eq C 20 dX7_kind_5 (by decide) (fun h5 => ?_) (fun h5 => ?_)
  · replace h5 := ih_b0 hrk2 h5
    refine s_ldc (v := (-1000001)) C (by decide +kernel) dX7_kind_20 ?_
    exact s_ireturn C hA dX7_kind_22 (by rw [sp_kind, if_neg (by omega)]; exact ⟨rfl, hX⟩)
  · replace h5 := ih_b1 hrk2 h5
    obtain ⟨kn, hkn, rfl, hknt⟩ := ih_nat (a := k) h5.1
    have hkn12 : kn < 12 := by omega
    have hkct : kn < ih_ct T := by omega
    refine s_aload_n C 0 dX7_kind_8 rfl ?_
    refine s_getR C 7 1 (hp _ _ _ rfl) (by decide) rfl (by decide) rfl (fun _ h => List.mem_cons_of_mem _ (List.mem_append_left _ (List.mem_append_right _ h))) (by decide) rfl (by decide +kernel) dX7_kind_9 ?_
    refine s_iload_n C 1 dX7_kind_12 rfl ?_
    refine s_aaload C 12 (kn) (hp _ _ _ (ih_pX_st hkn12)) rfl rfl (by omega) (by decide) (by decide) rfl (by decide) dX7_kind_13 ?_
    refine s_callVi 0 C (c_X6_toldKind _ w _ hp kn hkn12 (ih_ch T kn) (ih_RX_c hX hI hkct) (ih_RX_6 hX hI hkct)) gX7_kind_X6_toldKind rfl (by decide +kernel) (by decide) (by decide) (by show 19 + 2 * kn < 62; omega) (ih_kX_st hkn12) (by decide) rfl rfl rfl (Nat.le_of_ble_eq_true rfl) dX7_kind_14 ?_
    rintro rr S2 ⟨hrr, hSS⟩
    obtain rfl := hSS.symm
    refine s_goto C 22 dX7_kind_17 (by decide) ?_
    exact s_ireturn C hA dX7_kind_22 (by rw [sp_kind, if_pos (by omega), ih_n_nI hkn]; exact ⟨hrr, hX⟩)

set_option maxHeartbeats 4000000 in
set_option maxRecDepth 100000 in
theorem c_X7_as (l : Launch) (w : ih_Wd) (S : ih_Sg) (T : ih_TT) (hX : ih_RX S T) (hI : ih_Inv T) (k o : Int32) : ih_Ci l yX7_as wsX7_as 2 w ih_shX [.ref (w.2.2 0), .int k, .int o] S (fun r S' => r = (sp_as T k o).1 ∧ ih_RX S' (sp_as T k o).2) := by
  refine ih_bodyi (ret := some .int) rfl rfl (Nat.le_of_ble_eq_true rfl) ?_
  intro x A hA C
  have C : ih_Ok x w A cX7_as 3 RX7 wsX7_as (ih_rm 2) (some .int) := C
  show ih_Mw x w ih_shX A (ih_Qi x w ih_shX A _) 3 0 0 0 [(0, .ref (w.2.2 0)), (1, .int k), (2, .int o)] [] S
  have hct : ih_ct T ≤ 12 := hI.2.1.2.1
  have hp := hX.1
  refine s_aload_n C 0 dX7_as_0 rfl ?_
  refine s_iload_n C 1 dX7_as_1 rfl ?_
  refine s_callVi 1 C (c_X7_isStriker _ w _ (ih_ct T) hct (ih_RX_ct hX hI) _) gX7_as_X7_isStriker rfl (by decide +kernel) (by decide) (by decide) (by decide) rfl (by decide) rfl rfl rfl (Nat.le_of_ble_eq_true rfl) dX7_as_2 ?_
  rintro rk2 S2 ⟨hrk2, hSS⟩
  obtain rfl := hSS.symm
  refine s_if_eq C 17 dX7_as_5 (by decide) (fun h5 => ?_) (fun h5 => ?_)
  · replace h5 := ih_b0 hrk2 h5
    refine s_ldc (v := (-1000001)) C (by decide +kernel) dX7_as_17 ?_
    exact s_ireturn C hA dX7_as_19 (by rw [sp_as, if_neg (by omega)]; exact ⟨rfl, hX⟩)
  · replace h5 := ih_b1 hrk2 h5
    refine s_iload_n C 2 dX7_as_8 rfl ?_
    refine s_iconst (v := nI 0) C dX7_as_9 (by decide) ?_
    refine s_iconst (v := nI 3) C dX7_as_10 (by decide) ?_
    refine s_callSi 3 C (c_X7_within _ w _ _ _ _ _) gX7_as_X7_within rfl (by decide +kernel) (by decide) (by decide) rfl rfl (Nat.le_of_ble_eq_true rfl) dX7_as_11 ?_
    rintro rw11 S2 ⟨hrw11, hSS⟩
    obtain rfl := hSS.symm
    rw [ih_t (by decide), ih_t (by decide)] at hrw11
    refine s_if_ne C 20 dX7_as_14 (by decide) (fun h14 => ?_) (fun h14 => ?_)
    · replace h14 := ih_b1 hrw11 h14
      obtain ⟨kn, hkn, rfl, hknt⟩ := ih_nat (a := k) h5.1
      have hkn12 : kn < 12 := by omega
      have hkct : kn < ih_ct T := by omega
      obtain ⟨on_, hon_, rfl, hon_t⟩ := ih_nat (a := o) h14.1
      have hon_b : on_ < 4 := by omega
      refine s_aload_n C 0 dX7_as_20 rfl ?_
      refine s_getR C 7 1 (hp _ _ _ rfl) (by decide) rfl (by decide) rfl (fun _ h => List.mem_cons_of_mem _ (List.mem_append_left _ (List.mem_append_right _ h))) (by decide) rfl (by decide +kernel) dX7_as_21 ?_
      refine s_iload_n C 1 dX7_as_24 rfl ?_
      refine s_aaload C 12 (kn) (hp _ _ _ (ih_pX_st hkn12)) rfl rfl (by omega) (by decide) (by decide) rfl (by decide) dX7_as_25 ?_
      refine s_iload_n C 2 dX7_as_26 rfl ?_
      refine s_callVi 1 C (c_X6_isOne _ w _ hp kn hkn12 (ih_ch T kn) (ih_RX_c hX hI hkct) (ih_RX_6 hX hI hkct) on_ (by omega)) gX7_as_X6_isOne rfl (by decide +kernel) (by decide) (by decide) (by show 19 + 2 * kn < 62; omega) (ih_kX_st hkn12) (by decide) rfl rfl rfl (Nat.le_of_ble_eq_true rfl) dX7_as_27 ?_
      rintro ro S2 ⟨hro, hSS⟩
      obtain rfl := hSS.symm
      rw [← ih_kind_c] at hro
      refine s_if_ne C 39 dX7_as_30 (by decide) (fun h30 => ?_) (fun h30 => ?_)
      · replace h30 := ih_b1 hro h30
        refine s_aload_n C 0 dX7_as_39 rfl ?_
        refine s_aload_n C 0 dX7_as_40 rfl ?_
        refine s_getR C 7 1 (hp _ _ _ rfl) (by decide) rfl (by decide) rfl (fun _ h => List.mem_cons_of_mem _ (List.mem_append_left _ (List.mem_append_right _ h))) (by decide) rfl (by decide +kernel) dX7_as_41 ?_
        refine s_iload_n C 1 dX7_as_44 rfl ?_
        refine s_aaload C 12 (kn) (hp _ _ _ (ih_pX_st hkn12)) rfl rfl (by omega) (by decide) (by decide) rfl (by decide) dX7_as_45 ?_
        refine s_getR C 6 0 (hp _ _ _ (ih_pX_ch hkn12)) (by show 19 + 2 * kn < 62; omega) (ih_kX_st hkn12) (by decide) rfl (fun _ h => List.mem_cons_of_mem _ (List.mem_append_right _ h)) (by decide) rfl (by decide +kernel) dX7_as_46 ?_
        refine s_iconst (v := nI 0) C dX7_as_49 (by decide) ?_
        refine s_iaload C 6 (0) rfl (ih_lX_ch hkn12) (by decide) (by decide) (by show 20 + 2 * kn < 62; omega) (ih_kX_ch hkn12) dX7_as_50 ?_
        refine s_toe (b := T 4 (7 * kn)) ((hX.2.2.2.2.2.1 kn hkn12).1 0 (by decide)) ?_
        refine s_callVi 1 C (c_X7_fine _ w _ _) gX7_as_X7_fine rfl (by decide +kernel) (by decide) (by decide) (by decide) rfl (by decide) rfl rfl rfl (Nat.le_of_ble_eq_true rfl) dX7_as_51 ?_
        rintro rf S3 ⟨hrf, hS3⟩
        exact s_ireturn C hA dX7_as_54 (by rw [sp_as, if_pos (by omega), ih_n_nI hkn, ih_n_nI hon_, if_pos h30]; exact ⟨hrf, by rw [hS3]; exact ih_RX_f hX (nI 0)⟩)
      · replace h30 := ih_b0 hro h30
        refine s_aload_n C 0 dX7_as_33 rfl ?_
        refine s_iconst (v := nI 3) C dX7_as_34 (by decide) ?_
        refine s_callVi 1 C (c_X7_found _ w _ _) gX7_as_X7_found rfl (by decide +kernel) (by decide) (by decide) (by decide) rfl (by decide) rfl rfl rfl (Nat.le_of_ble_eq_true rfl) dX7_as_35 ?_
        rintro rf S2 ⟨hrf, hS2⟩
        exact s_ireturn C hA dX7_as_38 (by rw [sp_as, if_pos (by omega), ih_n_nI hkn, ih_n_nI hon_, if_neg h30]; exact ⟨hrf, by rw [hS2]; exact ih_RX_fd hX 3⟩)
    · replace h14 := ih_b0 hrw11 h14
      refine s_ldc (v := (-1000001)) C (by decide +kernel) dX7_as_17 ?_
      exact s_ireturn C hA dX7_as_19 (by rw [sp_as, if_neg (by omega)]; exact ⟨rfl, hX⟩)

set_option maxHeartbeats 4000000 in
set_option maxRecDepth 100000 in
theorem c_X4_forget (l : Launch) (w : ih_Wd) (S : ih_Sg) : ih_Cv l yX4_forget wsX4_forget 0 w ih_shX [.ref (w.2.2 53)] S (fun S' => S' = ih_sI S 53 4 (nI 0)) := by
  refine ih_bodyv (ret := none) rfl rfl (Nat.le_of_ble_eq_true rfl) ?_
  intro x A hA C
  have C : ih_Ok x w A cX4_forget 1 RX4 wsX4_forget (ih_rm 0) (none) := C
  show ih_Mw x w ih_shX A (ih_Qv x w ih_shX A _) 1 0 0 0 [(0, .ref (w.2.2 53))] [] S
  refine s_aload_n C 0 dX4_forget_0 rfl ?_
  refine s_iconst (v := nI 0) C dX4_forget_1 (by decide) ?_
  refine s_putI (ty := .int) C 4 4 tyX4 tyX4_ok nmX4 (by decide) rfl (by decide) rfl (fun _ h => List.mem_cons_of_mem _ (List.mem_append_right _ h)) (by decide) rfl (by decide +kernel) rfl (by decide +kernel) rfl rfl dX4_forget_2 ?_
  exact s_vreturn C hA dX4_forget_5 rfl

set_option maxHeartbeats 4000000 in
set_option maxRecDepth 100000 in
theorem c_X7_team (l : Launch) (w : ih_Wd) (S : ih_Sg) (T : ih_TT) (hX : ih_RX S T) (hI : ih_Inv T) (t k : Int32) : ih_Ci l yX7_team wsX7_team 2 w ih_shX [.ref (w.2.2 0), .int t, .int k] S (fun r S' => r = (sp_team T t k).1 ∧ ih_RX S' (sp_team T t k).2) := by
  refine ih_bodyi (ret := some .int) rfl rfl (Nat.le_of_ble_eq_true rfl) ?_
  intro x A hA C
  have C : ih_Ok x w A cX7_team 4 RX7 wsX7_team (ih_rm 2) (some .int) := C
  show ih_Mw x w ih_shX A (ih_Qi x w ih_shX A _) 4 0 0 0 [(0, .ref (w.2.2 0)), (1, .int t), (2, .int k)] [] S
  have hct : ih_ct T ≤ 12 := hI.2.1.2.1
  have hp := hX.1
  refine s_iload_n C 1 dX7_team_0 rfl ?_
  refine s_iconst (v := nI 0) C dX7_team_1 (by decide) ?_
  refine s_iconst (v := nI 1) C dX7_team_2 (by decide) ?_
  refine s_callSi 3 C (c_X7_within _ w _ _ _ _ _) gX7_team_X7_within rfl (by decide +kernel) (by decide) (by decide) rfl rfl (Nat.le_of_ble_eq_true rfl) dX7_team_3 ?_
  rintro rw3 S2 ⟨hrw3, hSS⟩
  obtain rfl := hSS.symm
  rw [ih_t (by decide), ih_t (by decide)] at hrw3
  refine s_if_eq C 17 dX7_team_6 (by decide) (fun h6 => ?_) (fun h6 => ?_)
  · replace h6 := ih_b0 hrw3 h6
    refine s_ldc (v := (-1000001)) C (by decide +kernel) dX7_team_17 ?_
    exact s_ireturn C hA dX7_team_19 (by rw [sp_team, if_neg (by omega)]; exact ⟨rfl, hX⟩)
  · replace h6 := ih_b1 hrw3 h6
    refine s_aload_n C 0 dX7_team_9 rfl ?_
    refine s_iload_n C 2 dX7_team_10 rfl ?_
    refine s_callVi 1 C (c_X7_isStriker _ w _ (ih_ct T) hct (ih_RX_ct hX hI) _) gX7_team_X7_isStriker rfl (by decide +kernel) (by decide) (by decide) (by decide) rfl (by decide) rfl rfl rfl (Nat.le_of_ble_eq_true rfl) dX7_team_11 ?_
    rintro rk11 S2 ⟨hrk11, hSS⟩
    obtain rfl := hSS.symm
    refine s_if_ne C 20 dX7_team_14 (by decide) (fun h14 => ?_) (fun h14 => ?_)
    · replace h14 := ih_b1 hrk11 h14
      obtain ⟨tn, htn, rfl, htnt⟩ := ih_nat (a := t) h6.1
      have htnb : tn < 2 := by omega
      refine s_aload_n C 0 dX7_team_20 rfl ?_
      refine s_getR C 7 5 (hp _ _ _ rfl) (by decide) rfl (by decide) rfl (fun _ h => List.mem_cons_of_mem _ (List.mem_append_left _ (List.mem_append_right _ h))) (by decide) rfl (by decide +kernel) dX7_team_21 ?_
      refine s_getR C 4 2 (hp _ _ _ rfl) (by decide) rfl (by decide) rfl (fun _ h => List.mem_cons_of_mem _ (List.mem_append_right _ h)) (by decide) rfl (by decide +kernel) dX7_team_24 ?_
      refine s_iload_n C 1 dX7_team_27 rfl ?_
      refine s_iaload C 2 (tn) rfl rfl (by omega) (by decide) (by decide) rfl dX7_team_28 ?_
      refine s_toe (b := T 9 tn) (hX.2.2.2.2.2.2.2.1 tn htnb) ?_
      refine s_istore_n (lv' := [(3, .int (T 9 tn)), (0, .ref (w.2.2 0)), (1, .int (nI tn)), (2, .int k)]) C dX7_team_29 rfl (by decide) rfl ?_
      refine s_aload_n C 1 dX7_team_30 rfl ?_
      refine s_getR C 7 5 (hp _ _ _ rfl) (by decide) rfl (by decide) rfl (fun _ h => List.mem_cons_of_mem _ (List.mem_append_left _ (List.mem_append_right _ h))) (by decide) rfl (by decide +kernel) dX7_team_31 ?_
      refine s_getR C 4 2 (hp _ _ _ rfl) (by decide) rfl (by decide) rfl (fun _ h => List.mem_cons_of_mem _ (List.mem_append_right _ h)) (by decide) rfl (by decide +kernel) dX7_team_34 ?_
      refine s_iload_n C 2 dX7_team_37 rfl ?_
      refine s_iload_n C 3 dX7_team_38 rfl ?_
      refine s_iastore C 2 (tn) rfl rfl (by omega) (by decide) (by decide) rfl dX7_team_39 ?_
      refine s_aload_n C 1 dX7_team_40 rfl ?_
      refine s_getR C 7 5 (hp _ _ _ rfl) (by decide) rfl (by decide) rfl (fun _ h => List.mem_cons_of_mem _ (List.mem_append_left _ (List.mem_append_right _ h))) (by decide) rfl (by decide +kernel) dX7_team_41 ?_
      refine s_callVv 0 C (c_X4_forget _ w _) gX7_team_X4_forget rfl (by decide +kernel) (by decide) (by decide) (by decide) rfl (by decide) rfl rfl rfl (Nat.le_of_ble_eq_true rfl) dX7_team_44 ?_
      rintro S4 hS4
      refine s_iload_n C 0 dX7_team_47 rfl ?_
      exact s_ireturn C hA dX7_team_48 (by rw [sp_team, if_pos (by omega), ih_n_nI htn]; exact ⟨rfl, by rw [hS4]; exact ih_RX_tm hX htnb _⟩)
    · replace h14 := ih_b0 hrk11 h14
      refine s_ldc (v := (-1000001)) C (by decide +kernel) dX7_team_17 ?_
      exact s_ireturn C hA dX7_team_19 (by rw [sp_team, if_neg (by omega)]; exact ⟨rfl, hX⟩)

