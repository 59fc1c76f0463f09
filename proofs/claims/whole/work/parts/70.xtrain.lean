theorem ih_sI_s {S : ih_Sg} {k j : Nat} {v : Int32} : (ih_sI S k j v).1 k j = v := ih_u2_s
theorem ih_sI_j {S : ih_Sg} {k j b : Nat} {v : Int32} (h : b ≠ j) : (ih_sI S k j v).1 k b = S.1 k b := ih_u2_j h
/-- what is known of halves, where the number of strikers stays -/
theorem rx_m_d {I J : Nat → Nat → Int32} {T U : ih_TT} (h : rx_m I T) (h1 : J 53 4 = I 53 4) (h2 : J 55 = I 55) (h05 : U 0 5 = T 0 5) (h4 : U 4 = T 4) (h9 : U 9 = T 9) : rx_m J U := by
  obtain ⟨kh, a, b, c, d⟩ := h
  refine ⟨kh, a, by rw [h1]; exact b, by rw [h2, ih_cg_c h4 h9]; exact c, fun q => ?_⟩
  obtain ⟨e, f⟩ := d q
  refine ⟨fun t ht => ?_, by rw [h2, ih_cg_c h4 h9]; exact f⟩
  have := e t ht
  unfold ih_tm ih_ct at this ⊢
  rw [h9, h05]
  exact this
theorem ih_RX_trn {S V : ih_Sg} {T U : ih_TT} (h : ih_RX S T) (h2 : V.2 = S.2) (hc : ∀ k, k < 19 ∨ 43 ≤ k → V.1 k = S.1 k) (hk : rx_k V.1 U) (hU : ∀ k, k ≠ 4 → U k = T k) : ih_RX (ih_sI V 53 4 (nI 0)) U := by
  refine ih_RX_kk h h2 (fun k h1 h3 h4 => (ih_sI_row h4).trans (hc k h1)) ?_ ?_ (rx_k_c hk (fun s hs => ⟨ih_sI_row (by omega), ih_sI_row (by omega)⟩) rfl) (hU 1 (by decide)) (hU 2 (by decide)) (hU 3 (by decide)) (hU 5 (by decide)) (hU 9 (by decide)) (hU 13 (by decide)) (by rw [hU 0 (by decide)]) (by rw [hU 0 (by decide)]) ?_
  · rw [ih_sI_row (by decide), hc 0 (by omega), hU 0 (by decide)]; exact h.2.2.1
  · rw [ih_sI_row (by decide), hc 0 (by omega), hU 0 (by decide)]; exact h.2.2.2.1
  · obtain ⟨kh, a, b, d, e⟩ := h.2.2.2.2.2.2.2.2.2.2
    refine ⟨0, by decide, ih_sI_s, fun L hL => ?_, fun q => absurd q (Nat.lt_irrefl 0)⟩
    rw [ih_sI_row (by decide), hc 55 (by omega), d L hL, ih_st_0, ih_st_0]
theorem ih_set1_id {T : ih_TT} (hI : ih_Inv T) {k : Nat} (hk : k < ih_ct T) : ih_set1 T k = T := by
  have h := hI.2.1.2.2 k hk
  have e : nI 1000 - T 4 (7 * k + 1) - T 4 (7 * k + 2) - T 4 (7 * k + 3) - T 4 (7 * k + 4) - T 4 (7 * k + 5) = T 4 (7 * k) := by
    rw [(h.1 1 (by decide)).1, (h.1 2 (by decide)).1, (h.1 3 (by decide)).1, (h.1 4 (by decide)).1, (h.1 5 (by decide)).1, show T 4 (7 * k) = nI (ih_ch T k 0) from (h.1 0 (by decide)).1]
    have h2 := h.2
    rw [pk_sub (by omega), pk_sub (by omega), pk_sub (by omega), pk_sub (by omega), pk_sub (by omega)]
    exact congrArg nI (by omega)
  unfold ih_set1
  rw [e]
  funext a b
  unfold ih_u2
  split
  · next q => rw [q.1, q.2]
  · rfl
set_option maxHeartbeats 4000000 in
set_option maxRecDepth 100000 in
theorem c_X7_train (l : Launch) (w : ih_Wd) (S : ih_Sg) (T : ih_TT) (hX : ih_RX S T) (hI : ih_Inv T) (k a v : Int32) : ih_Ci l yX7_train wsX7_train 2 w ih_shX [.ref (w.2.2 0), .int k, .int a, .int v] S (fun r S' => r = (sp_train T k a v).1 ∧ ih_RX S' (sp_train T k a v).2) := by
  refine ih_bodyi (ret := some .int) rfl rfl (Nat.le_of_ble_eq_true rfl) ?_
  intro x A hA C
  have C : ih_Ok x w A cX7_train 6 RX7 wsX7_train (ih_rm 2) (some .int) := C
  show ih_Mw x w ih_shX A (ih_Qi x w ih_shX A _) 6 0 0 0 [(0, .ref (w.2.2 0)), (1, .int k), (2, .int a), (3, .int v)] [] S
  have hct : ih_ct T ≤ 12 := hI.2.1.2.1
  have hp := hX.1
  refine s_aload_n C 0 dX7_train_0 rfl ?_
  refine s_iload_n C 1 dX7_train_1 rfl ?_
  refine s_callVi 1 C (c_X7_isStriker _ w _ (ih_ct T) hct (ih_RX_ct hX hI) _) gX7_train_X7_isStriker rfl (by decide +kernel) (by decide) (by decide) (by decide) rfl (by decide) rfl rfl rfl (Nat.le_of_ble_eq_true rfl) dX7_train_2 ?_
  rintro rk2 S2 ⟨hrk2, hSS⟩
  obtain rfl := hSS.symm
  refine s_if_eq C 25 dX7_train_5 (by decide) (fun h5 => ?_) (fun h5 => ?_)
  · replace h5 := ih_b0 hrk2 h5
    refine s_ldc (v := (-1000001)) C (by decide +kernel) dX7_train_25 ?_
    exact s_ireturn C hA dX7_train_27 (by rw [sp_train, if_neg (by omega)]; exact ⟨rfl, hX⟩)
  · replace h5 := ih_b1 hrk2 h5
    refine s_iload_n C 2 dX7_train_8 rfl ?_
    refine s_iconst (v := nI 1) C dX7_train_9 (by decide) ?_
    refine s_bipush (v := nI 6) C dX7_train_10 (by decide) ?_
    refine s_callSi 3 C (c_X7_within _ w _ _ _ _ _) gX7_train_X7_within rfl (by decide +kernel) (by decide) (by decide) rfl rfl (Nat.le_of_ble_eq_true rfl) dX7_train_12 ?_
    rintro rw12 S2 ⟨hrw12, hSS⟩
    obtain rfl := hSS.symm
    rw [ih_t (by decide), ih_t (by decide)] at hrw12
    refine s_if_eq C 25 dX7_train_15 (by decide) (fun h15 => ?_) (fun h15 => ?_)
    · replace h15 := ih_b0 hrw12 h15
      refine s_ldc (v := (-1000001)) C (by decide +kernel) dX7_train_25 ?_
      exact s_ireturn C hA dX7_train_27 (by rw [sp_train, if_neg (by omega)]; exact ⟨rfl, hX⟩)
    · replace h15 := ih_b1 hrw12 h15
      refine s_iload_n C 3 dX7_train_18 rfl ?_
      refine s_callSi 1 C (c_X7_isChance _ w _ _) gX7_train_X7_isChance rfl (by decide +kernel) (by decide) (by decide) rfl rfl (Nat.le_of_ble_eq_true rfl) dX7_train_19 ?_
      rintro rc19 S2 ⟨hrc19, hSS⟩
      obtain rfl := hSS.symm
      refine s_if_ne C 28 dX7_train_22 (by decide) (fun h22 => ?_) (fun h22 => ?_)
      · replace h22 := ih_b1 hrc19 h22
        obtain ⟨kn, hkn, rfl, hknt⟩ := ih_nat (a := k) h5.1
        have hkn12 : kn < 12 := by omega
        have hkct : kn < ih_ct T := by omega
        obtain ⟨an, han, rfl, hant⟩ := ih_nat (a := a) (by omega)
        have hanb : an < 7 := by omega
        obtain ⟨vn, hvn, rfl, hvnt⟩ := ih_nat (a := v) h22.1
        refine s_aload_n C 0 dX7_train_28 rfl ?_
        refine s_getR C 7 1 (hp _ _ _ rfl) (by decide) rfl (by decide) rfl (fun _ h => List.mem_cons_of_mem _ (List.mem_append_left _ (List.mem_append_left _ (List.mem_append_right _ h)))) (by decide) rfl (by decide +kernel) dX7_train_29 ?_
        refine s_iload_n C 1 dX7_train_32 rfl ?_
        refine s_aaload C 12 (kn) (hp _ _ _ (ih_pX_st hkn12)) rfl rfl (by omega) (by decide) (by decide) rfl (by decide) dX7_train_33 ?_
        refine s_astore (lv' := [(4, .ref (w.2.2 (19 + 2 * kn))), (0, .ref (w.2.2 0)), (1, .int (nI kn)), (2, .int (nI an)), (3, .int (nI vn))]) C dX7_train_34 (by decide) rfl ?_
        refine s_aload C 0 dX7_train_36 rfl ?_
        refine s_iload_n C 3 dX7_train_38 rfl ?_
        refine s_callVi 1 C (c_X6_chanceOrSteals _ w _ hp kn hkn12 an (by omega)) gX7_train_X6_chanceOrSteals rfl (by decide +kernel) (by decide) (by decide) (by show 19 + 2 * kn < 62; omega) (ih_kX_st hkn12) (by decide) rfl rfl rfl (Nat.le_of_ble_eq_true rfl) dX7_train_39 ?_
        rintro rr S2 ⟨hrr, hSS⟩
        obtain rfl := hSS.symm
        have hca := ih_Inv_c hI hkct an (by omega)
        rw [ih_RX_ca hX hkn12 (by omega), hca.1] at hrr
        subst hrr
        have hcb := hca.2
        have hsub := pk_sub_toInt (a := vn) (b := ih_ch T kn an) (by omega) (by omega)
        have hc0 := (ih_RX_c hX hI hkct 0 (by decide)).2
        refine s_istore (lv' := [(5, .int (nI (ih_ch T kn an))), (4, .ref (w.2.2 (19 + 2 * kn))), (0, .ref (w.2.2 0)), (1, .int (nI kn)), (2, .int (nI an)), (3, .int (nI vn))]) C dX7_train_42 (by decide) rfl ?_
        refine s_iload_n C 4 dX7_train_44 rfl ?_
        refine s_bipush (v := nI 6) C dX7_train_45 (by decide) ?_
        refine s_icmp_neN 59 C dX7_train_47 (by decide) (by omega) (by omega) (fun h47 => ?_) (fun h47 => ?_)
        · refine s_iload_n C 5 dX7_train_59 rfl ?_
          refine s_iload C 0 dX7_train_60 rfl ?_
          refine s_isub C dX7_train_62  ?_
          refine s_aload C 1 dX7_train_63 rfl ?_
          refine s_getR C 6 0 (hp _ _ _ (ih_pX_ch hkn12)) (by show 19 + 2 * kn < 62; omega) (ih_kX_st hkn12) (by decide) rfl (fun _ h => List.mem_cons_of_mem _ (List.mem_append_left _ (List.mem_append_right _ h))) (by decide) rfl (by decide +kernel) dX7_train_65 ?_
          refine s_iconst (v := nI 0) C dX7_train_68 (by decide) ?_
          refine s_iaload C 6 (0) rfl (ih_lX_ch hkn12) (by decide) (by decide) (by show 20 + 2 * kn < 62; omega) (ih_kX_ch hkn12) dX7_train_69 ?_
          refine s_toe (ih_RX_c hX hI hkct 0 (by decide)).1 ?_
          refine s_icmp_le C 76 dX7_train_70 (by decide) (fun h70 => ?_) (fun h70 => ?_)
          · simp only [ih_lei, ih_lti, ih_t0, ih_t (n := ih_ch T kn 0) (by omega)] at h70
            refine s_aload C 1 dX7_train_76 rfl ?_
            refine s_getR C 6 0 (hp _ _ _ (ih_pX_ch hkn12)) (by show 19 + 2 * kn < 62; omega) (ih_kX_st hkn12) (by decide) rfl (fun _ h => List.mem_cons_of_mem _ (List.mem_append_left _ (List.mem_append_right _ h))) (by decide) rfl (by decide +kernel) dX7_train_78 ?_
            refine s_iload_n C 4 dX7_train_81 rfl ?_
            refine s_iload_n C 5 dX7_train_82 rfl ?_
            refine s_iastore C 6 (an) rfl (ih_lX_ch hkn12) (by omega) (by decide) (by show 20 + 2 * kn < 62; omega) (ih_kX_ch hkn12) dX7_train_83 ?_
            refine s_aload C 1 dX7_train_84 rfl ?_
            refine s_callVv 0 C (c_X6_giveTheRestToOut _ w (ih_sI S (20 + 2 * kn) an (nI vn)) hp kn hkn12) gX7_train_X6_giveTheRestToOut rfl (by decide +kernel) (by decide) (by decide) (by show 19 + 2 * kn < 62; omega) (ih_kX_st hkn12) (by decide) rfl rfl rfl (Nat.le_of_ble_eq_true rfl) dX7_train_86 ?_
            rintro S4 hS4
            refine s_aload_n C 2 dX7_train_89 rfl ?_
            refine s_getR C 7 5 (by first | exact hp _ _ _ rfl | (rw [hS4]; exact hp _ _ _ rfl)) (by decide) rfl (by decide) rfl (fun _ h => List.mem_cons_of_mem _ (List.mem_append_left _ (List.mem_append_left _ (List.mem_append_right _ h)))) (by decide) rfl (by decide +kernel) dX7_train_90 ?_
            refine s_callVv 0 C (c_X4_forget _ w _) gX7_train_X4_forget rfl (by decide +kernel) (by decide) (by decide) (by decide) rfl (by decide) rfl rfl rfl (Nat.le_of_ble_eq_true rfl) dX7_train_93 ?_
            rintro S5 hS5
            refine s_iload C 0 dX7_train_96 rfl ?_
            exact s_ireturn C hA dX7_train_98 (by rw [sp_train, if_pos (show ((0 ≤ (nI kn).toInt ∧ (nI kn).toInt < ih_ct T) ∧ (1 ≤ (nI an).toInt ∧ (nI an).toInt ≤ 6) ∧ (0 ≤ (nI vn).toInt ∧ (nI vn).toInt ≤ 1000)) by omega), ih_n_nI hkn, ih_n_nI han, ih_n_nI hvn, if_neg (by omega)]; refine ⟨hca.1.symm, ?_⟩; rw [hS5, hS4]; exact ih_RX_trn hX rfl (fun k hk => (ih_sI_row (by omega)).trans (ih_sI_row (by omega))) (rx_k_0 (rx_k_w hX.2.2.2.2.2.1 hkn12 (by omega) _) hkn12) (fun k hk => (ih_u2_row hk).trans (ih_u2_row hk)))
          · simp only [ih_lei, ih_lti, ih_t0, ih_t (n := ih_ch T kn 0) (by omega)] at h70
            refine s_ldc (v := (-1000002)) C (by decide +kernel) dX7_train_73 ?_
            exact s_ireturn C hA dX7_train_75 (by rw [sp_train, if_pos (show ((0 ≤ (nI kn).toInt ∧ (nI kn).toInt < ih_ct T) ∧ (1 ≤ (nI an).toInt ∧ (nI an).toInt ≤ 6) ∧ (0 ≤ (nI vn).toInt ∧ (nI vn).toInt ≤ 1000)) by omega), ih_n_nI hkn, ih_n_nI han, ih_n_nI hvn, if_pos (by omega)]; exact ⟨rfl, hX⟩)
        · refine s_aload C 1 dX7_train_50 rfl ?_
          refine s_iload_n C 5 dX7_train_52 rfl ?_
          refine s_putI (ty := .int) C 6 1 tyX6 tyX6_ok nmX6 (by show 19 + 2 * kn < 62; omega) (ih_kX_st hkn12) (by decide) rfl (fun _ h => List.mem_cons_of_mem _ (List.mem_append_left _ (List.mem_append_right _ h))) (by decide) rfl (by decide +kernel) rfl (by decide +kernel) rfl rfl dX7_train_53 ?_
          refine s_goto C 89 dX7_train_56 (by decide) ?_
          refine s_aload_n C 2 dX7_train_89 rfl ?_
          refine s_getR C 7 5 (by first | exact hp _ _ _ rfl | (rw [hS4]; exact hp _ _ _ rfl)) (by decide) rfl (by decide) rfl (fun _ h => List.mem_cons_of_mem _ (List.mem_append_left _ (List.mem_append_left _ (List.mem_append_right _ h)))) (by decide) rfl (by decide +kernel) dX7_train_90 ?_
          refine s_callVv 0 C (c_X4_forget _ w _) gX7_train_X4_forget rfl (by decide +kernel) (by decide) (by decide) (by decide) rfl (by decide) rfl rfl rfl (Nat.le_of_ble_eq_true rfl) dX7_train_93 ?_
          rintro S5 hS5
          refine s_iload C 0 dX7_train_96 rfl ?_
          exact s_ireturn C hA dX7_train_98 (by rw [sp_train, if_pos (show ((0 ≤ (nI kn).toInt ∧ (nI kn).toInt < ih_ct T) ∧ (1 ≤ (nI an).toInt ∧ (nI an).toInt ≤ 6) ∧ (0 ≤ (nI vn).toInt ∧ (nI vn).toInt ≤ 1000)) by omega), ih_n_nI hkn, ih_n_nI han, ih_n_nI hvn, if_neg (by omega)]; refine ⟨hca.1.symm, ?_⟩; rw [hS5, h47, ih_set1_6, ih_set1_id hI hkct]; exact ih_RX_trn hX rfl (fun k hk => ih_sI_row (by omega)) (rx_k_6 hX.2.2.2.2.2.1 hkn12 _) (fun k hk => ih_u2_row hk))
      · replace h22 := ih_b0 hrc19 h22
        refine s_ldc (v := (-1000001)) C (by decide +kernel) dX7_train_25 ?_
        exact s_ireturn C hA dX7_train_27 (by rw [sp_train, if_neg (by omega)]; exact ⟨rfl, hX⟩)

set_option maxHeartbeats 4000000 in
set_option maxRecDepth 100000 in
theorem c_X2_take (l : Launch) (w : ih_Wd) (S : ih_Sg) (hp : ih_PX S) (s a n : Nat) (hs : s < 8) (hn : n ≤ 9) (han : a + n ≤ 60) : ih_Cv l yX2_take wsX2_take 1 w ih_shX [.ref (w.2.2 46), .ref (w.2.2 (3 + 2 * s)), .int (nI a), .int (nI n)] S (fun S' => S' = ih_sI (ih_sA S 47 (va_cpy (S.1 (3 + 2 * s)) (S.1 47) a 0 n)) 46 3 (nI n)) := by
  refine ih_bodyv (ret := none) rfl rfl (Nat.le_of_ble_eq_true rfl) ?_
  intro x A hA C
  have C : ih_Ok x w A cX2_take 4 RX2 wsX2_take (ih_rm 1) (none) := C
  show ih_Mw x w ih_shX A (ih_Qv x w ih_shX A _) 4 0 0 0 [(0, .ref (w.2.2 46)), (1, .ref (w.2.2 (3 + 2 * s))), (2, .int (nI a)), (3, .int (nI n))] [] S
  refine s_aload_n C 1 dX2_take_0 rfl ?_
  refine s_iload_n C 2 dX2_take_1 rfl ?_
  refine s_aload_n C 0 dX2_take_2 rfl ?_
  refine s_getR C 2 2 (hp _ _ _ rfl) (by decide) rfl (by decide) rfl (fun _ h => List.mem_cons_of_mem _ (List.mem_append_right _ h)) (by decide) rfl (by decide +kernel) dX2_take_3 ?_
  refine s_iconst (v := nI 0) C dX2_take_6 (by decide) ?_
  refine s_iload_n C 3 dX2_take_7 rfl ?_
  refine s_copyi (k0 := 3 + 2 * s) (k1 := 47) (a := a) (b := 0) (m := n) C (show 3 + 2 * s < 62 by omega) (ih_kX_it hs) (by decide) rfl (by rw [ih_lX_it hs]; omega) (show 0 + n ≤ 9 by omega) (by omega) (by omega) (by omega) (by decide +kernel) (by decide +kernel) (by decide +kernel) (by decide +kernel) (by decide) (by decide) dX2_take_8 ?_
  refine s_aload_n C 0 dX2_take_11 rfl ?_
  refine s_iload_n C 3 dX2_take_12 rfl ?_
  refine s_putI (ty := .int) C 2 3 tyX2 tyX2_ok nmX2 (by decide) rfl (by decide) rfl (fun _ h => List.mem_cons_of_mem _ (List.mem_append_right _ h)) (by decide) rfl (by decide +kernel) rfl (by decide +kernel) rfl rfl dX2_take_13 ?_
  exact s_vreturn C hA dX2_take_16 rfl

theorem ih_cp5_at {X : ih_TT} {b k j : Nat} : ∀ n, ih_cp5 X b n k j = if k = 5 ∧ j < n then X 3 (b + j) else X k j
  | 0 => by rw [if_neg (by omega)]; rfl
  | n + 1 => by
    show ih_u2 (ih_cp5 X b n) 5 n (X 3 (b + n)) k j = _
    unfold ih_u2
    by_cases h : k = 5 ∧ j = n
    · rw [if_pos h, if_pos (by omega), h.2]
    · rw [if_neg h, ih_cp5_at n]
      by_cases h2 : k = 5 ∧ j < n
      · rw [if_pos h2, if_pos (by omega)]
      · rw [if_neg h2, if_neg (by omega)]
theorem ih_cp5_row {X : ih_TT} {b k n : Nat} (h : k ≠ 5) : ih_cp5 X b n k = X k := by
  funext j
  rw [ih_cp5_at, if_neg (by omega)]
theorem ih_sA_row {S : ih_Sg} {k a : Nat} {g : Nat → Int32} (h : a ≠ k) : (ih_sA S k g).1 a = S.1 a := ih_u1_row h
theorem ih_sA_s {S : ih_Sg} {k : Nat} {g : Nat → Int32} : (ih_sA S k g).1 k = g := ih_u1_s
/-- the order's row, how many places, the rows that hold numbers for a while, and nothing else -/
theorem ih_RX_oo {S V : ih_Sg} {T U : ih_TT} (h : ih_RX S T) (hp : ih_PX V) (hq : rx_p V.2.2) (hc : ∀ k, k < 46 ∨ (53 ≤ k ∧ k ≠ 56 ∧ k ≠ 57) → k ≠ 53 → V.1 k = S.1 k) (h534 : V.1 53 4 = S.1 53 4) (ho : rx_o V.1 U) (hU : ∀ k, k ≠ 0 → k ≠ 5 → k ≠ 8 → U k = T k) (h01 : U 0 1 = T 0 1) (h05 : U 0 5 = T 0 5) (h021 : U 0 21 = T 0 21) : ih_RX V U := by
  obtain ⟨g1, g2, g3, g4, g5, g6, g7, g8, g9, g10, g11⟩ := h
  refine ⟨hp, hq, by rw [hc 0 (by omega) (by omega), h01]; exact g3, by rw [hc 0 (by omega) (by omega), h05]; exact g4, rx_s_c g5 (fun s hs => ⟨hc _ (by omega) (by omega), hc _ (by omega) (by omega)⟩) ⟨hU 1 (by decide) (by decide) (by decide), hU 2 (by decide) (by decide) (by decide), hU 3 (by decide) (by decide) (by decide)⟩, rx_k_c g6 (fun s hs => ⟨hc _ (by omega) (by omega), hc _ (by omega) (by omega)⟩) (hU 4 (by decide) (by decide) (by decide)), ho, ?_, ?_, ?_, rx_m_d g11 h534 (hc 55 (by omega) (by omega)) h05 (hU 4 (by decide) (by decide) (by decide)) (hU 9 (by decide) (by decide) (by decide))⟩
  · unfold rx_t; rw [hc 54 (by omega) (by omega), hU 9 (by decide) (by decide) (by decide)]; exact g8
  · unfold rx_a; rw [hc 60 (by omega) (by omega), hc 61 (by omega) (by omega), h021, hU 13 (by decide) (by decide) (by decide)]; exact g9
  · unfold rx_b; rw [hc 44 (by omega) (by omega), hc 45 (by omega) (by omega)]; exact g10
theorem ih_RX_ord {S : ih_Sg} {T : ih_TT} (h : ih_RX S T) {s a n : Nat} (hs : s < 8) (hn : n ≤ 9) (han : a + n ≤ 60) : ih_RX (ih_sI (ih_sA S 47 (va_cpy (S.1 (3 + 2 * s)) (S.1 47) a 0 n)) 46 3 (nI n)) (ih_cp5 (ih_u2 T 0 7 (nI n)) (60 * s + a) n) := by
  have h5 := h.2.2.2.2.1 s hs
  have h7 := h.2.2.2.2.2.2.1
  refine ih_RX_oo h h.1 h.2.1 (fun k h1 h2 => (ih_sI_row (by omega)).trans (ih_sA_row (by omega))) ?_ ⟨?_, fun j hj => ?_⟩ (fun k h1 h2 h3 => (ih_cp5_row h2).trans (ih_u2_row h1)) ?_ ?_ ?_
  · rw [ih_sI_row (by decide), ih_sA_row (by decide)]
  · rw [ih_cp5_row (by decide), ih_u2_s]; exact ih_sI_s
  · rw [ih_sI_row (by decide), ih_sA_s, ih_cp5_at]
    unfold va_cpy
    by_cases hjn : j < n
    · rw [if_pos (by omega), if_pos ⟨rfl, hjn⟩, ih_u2_k (by decide), Nat.sub_zero, h5.2.2.2 _ (by omega), Nat.add_assoc]
    · rw [if_neg (by omega), if_neg (by omega), ih_u2_k (by decide)]
      exact h7.2 j hj
  · rw [ih_cp5_row (by decide), ih_u2_j (by decide)]
  · rw [ih_cp5_row (by decide), ih_u2_j (by decide)]
  · rw [ih_cp5_row (by decide), ih_u2_j (by decide)]
theorem ih_cp5_sw {X : ih_TT} {b n d : Nat} {v : Int32} : ih_u2 (ih_cp5 X b n) 0 d v = ih_cp5 (ih_u2 X 0 d v) b n := by
  funext k j
  rw [ih_cp5_at]
  unfold ih_u2
  by_cases h1 : k = 0 ∧ j = d
  · rw [if_pos h1, if_neg (by omega), if_pos h1]
  · rw [if_neg h1, ih_cp5_at]
    by_cases h2 : k = 5 ∧ j < n
    · rw [if_pos h2, if_pos h2, if_neg (by omega)]
    · rw [if_neg h2, if_neg h2, if_neg h1]
theorem ih_u2_sj {T : ih_TT} {a b c d : Nat} {v w : Int32} (h : b ≠ d) : ih_u2 (ih_u2 T a b v) c d w = ih_u2 (ih_u2 T c d w) a b v := by
  funext k j
  unfold ih_u2
  by_cases h1 : k = c ∧ j = d
  · rw [if_pos h1, if_neg (by omega), if_pos h1]
  · by_cases h2 : k = a ∧ j = b
    · rw [if_neg h1, if_pos h2, if_pos h2]
    · rw [if_neg h1, if_neg h2, if_neg h2, if_neg h1]
set_option maxHeartbeats 4000000 in
set_option maxRecDepth 100000 in
theorem c_X7_order (l : Launch) (w : ih_Wd) (S : ih_Sg) (T : ih_TT) (hX : ih_RX S T) (hI : ih_Inv T) (s i n : Int32) : ih_Ci l yX7_order wsX7_order 2 w ih_shX [.ref (w.2.2 0), .int s, .int i, .int n] S (fun r S' => r = (sp_order T s i n).1 ∧ ih_RX S' (sp_order T s i n).2) := by
  refine ih_bodyi (ret := some .int) rfl rfl (Nat.le_of_ble_eq_true rfl) ?_
  intro x A hA C
  have C : ih_Ok x w A cX7_order 6 RX7 wsX7_order (ih_rm 2) (some .int) := C
  show ih_Mw x w ih_shX A (ih_Qi x w ih_shX A _) 6 0 0 0 [(0, .ref (w.2.2 0)), (1, .int s), (2, .int i), (3, .int n)] [] S
  obtain ⟨Q, hQ⟩ : ∃ Q, Q = ih_Qi x w ih_shX A (fun r S' => r = (sp_order T s i n).1 ∧ ih_RX S' (sp_order T s i n).2) := ⟨_, rfl⟩
  rw [show ih_Qi x w ih_shX A _ = Q from hQ.symm]
  have hct : ih_ct T ≤ 12 := hI.2.1.2.1
  have hp := hX.1
  refine s_iload_n C 1 dX7_order_0 rfl ?_
  refine s_callSi 1 C (c_X7_isSheet _ w _ _) gX7_order_X7_isSheet rfl (by decide +kernel) (by decide) (by decide) rfl rfl (Nat.le_of_ble_eq_true rfl) dX7_order_1 ?_
  rintro rs1 S2 ⟨hrs1, hSS⟩
  obtain rfl := hSS.symm
  refine s_if_eq C 17 dX7_order_4 (by decide) (fun h4 => ?_) (fun h4 => ?_)
  · replace h4 := ih_b0 hrs1 h4
    refine s_ldc (v := (-1000001)) C (by decide +kernel) dX7_order_17 ?_
    rw [hQ]
    exact s_ireturn C hA dX7_order_19 (by rw [sp_order, if_neg (by omega)]; exact ⟨rfl, hX⟩)
  · replace h4 := ih_b1 hrs1 h4
    refine s_iload_n C 3 dX7_order_7 rfl ?_
    refine s_iconst (v := nI 1) C dX7_order_8 (by decide) ?_
    refine s_bipush (v := nI 9) C dX7_order_9 (by decide) ?_
    refine s_callSi 3 C (c_X7_within _ w _ _ _ _ _) gX7_order_X7_within rfl (by decide +kernel) (by decide) (by decide) rfl rfl (Nat.le_of_ble_eq_true rfl) dX7_order_11 ?_
    rintro rw11 S2 ⟨hrw11, hSS⟩
    obtain rfl := hSS.symm
    rw [ih_t (by decide), ih_t (by decide)] at hrw11
    refine s_if_ne C 20 dX7_order_14 (by decide) (fun h14 => ?_) (fun h14 => ?_)
    · replace h14 := ih_b1 hrw11 h14
      obtain ⟨sn, hsn, rfl, hsnt⟩ := ih_nat (a := s) h4.1
      have hsnb : sn < 8 := by omega
      obtain ⟨nn, hnn, rfl, hnnt⟩ := ih_nat (a := n) (by omega)
      have hnnb : nn < 10 := by omega
      have hp := hX.1
      have hmn : ih_mn T sn ≤ 60 := (hI.1 sn hsnb).2.2
      refine s_aload_n C 0 dX7_order_20 rfl ?_
      refine s_getR C 7 0 (hp _ _ _ rfl) (by decide) rfl (by decide) rfl (fun _ h => List.mem_cons_of_mem _ (List.mem_append_left _ (List.mem_append_left _ (List.mem_append_right _ h)))) (by decide) rfl (by decide +kernel) dX7_order_21 ?_
      refine s_iload_n C 1 dX7_order_24 rfl ?_
      refine s_aaload C 8 (sn) (hp _ _ _ (ih_pX_sh hsnb)) rfl rfl (by omega) (by decide) (by decide) rfl (by decide) dX7_order_25 ?_
      refine s_astore (lv' := [(4, .ref (w.2.2 (2 + 2 * sn))), (0, .ref (w.2.2 0)), (1, .int (nI sn)), (2, .int i), (3, .int (nI nn))]) C dX7_order_26 (by decide) rfl ?_
      refine s_aload C 0 dX7_order_28 rfl ?_
      refine s_getI C 5 1 (by show 2 + 2 * sn < 62; omega) (ih_kX_sh hsnb) (by decide) rfl (fun _ h => List.mem_cons_of_mem _ (List.mem_append_left _ (List.mem_append_right _ h))) (by decide) rfl (by decide +kernel) dX7_order_30 ?_
      refine s_topi (fun rmi ermi => ?_)
      replace ermi := ermi.trans (hX.2.2.2.2.1 sn hsnb).1
      refine s_if_eq C 42 dX7_order_33 (by decide) (fun h33 => ?_) (fun h33 => ?_)
      · replace h33 := ih_b0 ermi h33
        have hmis : ¬ (T 1 sn).toInt < 0 := by omega
        refine s_aload C 0 dX7_order_42 rfl ?_
        refine s_iload_n C 3 dX7_order_44 rfl ?_
        refine s_iload_n C 4 dX7_order_45 rfl ?_
        refine s_callVi 2 C (c_X5_holds _ w _ sn (ih_mn T sn) hsnb (hI.1 sn hsnb).2.2 ((hX.2.2.2.2.1 sn hsnb).2.2.1.trans (hI.1 sn hsnb).2.1) _ _) gX7_order_X5_holds rfl (by decide +kernel) (by decide) (by decide) (by show 2 + 2 * sn < 62; omega) (ih_kX_sh hsnb) (by decide) rfl rfl rfl (Nat.le_of_ble_eq_true rfl) dX7_order_46 ?_
        rintro rh46 S2 ⟨hrh46, hSS⟩
        obtain rfl := hSS.symm
        refine s_if_ne C 58 dX7_order_49 (by decide) (fun h49 => ?_) (fun h49 => ?_)
        · replace h49 := ih_b1 hrh46 h49
          obtain ⟨ik, hik, rfl, hikt⟩ := ih_nat (a := i) h49.1
          have hikb : ik < 60 := by omega
          have hhold : 0 ≤ (nI ik).toInt ∧ (nI ik).toInt + (nI nn).toInt ≤ ih_mn T sn := by omega
          refine s_iconst (v := nI 0) C dX7_order_58 (by decide) ?_
          refine s_istore (lv' := [(5, .int (nI 0)), (4, .ref (w.2.2 (2 + 2 * sn))), (0, .ref (w.2.2 0)), (1, .int (nI sn)), (2, .int (nI ik)), (3, .int (nI nn))]) C dX7_order_59 (by decide) rfl ?_
          have hx_61 : ∀ S, (ih_RX S T ∧ ∀ k, k < (nn) → 0 ≤ (T 3 (60 * sn + ik + k)).toInt ∧ (T 3 (60 * sn + ik + k)).toInt < ih_ct T) → ih_Mw x w ih_shX A Q 6 0 0 93 [(0, .ref (w.2.2 0)), (1, .int (nI sn)), (2, .int (nI ik)), (3, .int (nI nn)), (4, .ref (w.2.2 (2 + 2 * sn)))] [] S := by
            intro S ⟨hX, hA2⟩
            have hp := hX.1
            refine s_aload_n C 0 dX7_order_93 rfl ?_
            refine s_getR C 7 4 (hp _ _ _ rfl) (by decide) rfl (by decide) rfl (fun _ h => List.mem_cons_of_mem _ (List.mem_append_left _ (List.mem_append_left _ (List.mem_append_right _ h)))) (by decide) rfl (by decide +kernel) dX7_order_94 ?_
            refine s_aload C 4 dX7_order_97 rfl ?_
            refine s_getR C 5 0 (hp _ _ _ (ih_pX_it hsnb)) (by show 2 + 2 * sn < 62; omega) (ih_kX_sh hsnb) (by decide) rfl (fun _ h => List.mem_cons_of_mem _ (List.mem_append_left _ (List.mem_append_right _ h))) (by decide) rfl (by decide +kernel) dX7_order_99 ?_
            refine s_iload_n C 2 dX7_order_102 rfl ?_
            refine s_iload_n C 3 dX7_order_103 rfl ?_
            refine s_callVv 3 C (c_X2_take _ w _ hp sn ik nn hsnb (by omega) (by omega)) gX7_order_X2_take rfl (by decide +kernel) (by decide) (by decide) (by decide) rfl (by decide) rfl rfl rfl (Nat.le_of_ble_eq_true rfl) dX7_order_104 ?_
            rintro S4 hS4
            refine s_aload_n C 0 dX7_order_107 rfl ?_
            refine s_iload_n C 3 dX7_order_108 rfl ?_
            refine s_callVi 1 C (c_X7_fine _ w _ _) gX7_order_X7_fine rfl (by decide +kernel) (by decide) (by decide) (by decide) rfl (by decide) rfl rfl rfl (Nat.le_of_ble_eq_true rfl) dX7_order_109 ?_
            rintro rf S3 ⟨hrf, hS3⟩
            rw [hQ]
            exact s_ireturn C hA dX7_order_112 (by rw [sp_order, if_pos (show ((0 ≤ (nI sn).toInt ∧ (nI sn).toInt ≤ 7) ∧ (1 ≤ (nI nn).toInt ∧ (nI nn).toInt ≤ 9)) by omega), ih_n_nI hsn, ih_n_nI hik, ih_n_nI hnn, if_neg hmis, if_pos hhold, if_pos hA2]; exact ⟨hrf, by rw [hS3, ih_u2_sj (by decide), ← ih_cp5_sw, hS4]; exact ih_RX_f (ih_RX_ord hX hsnb (by omega) (by omega)) (nI 0)⟩)
          have loop_61 : ∀ (fu j : Nat), j + fu = nn → ∀ S, (ih_RX S T ∧ ∀ k, k < (j) → 0 ≤ (T 3 (60 * sn + ik + k)).toInt ∧ (T 3 (60 * sn + ik + k)).toInt < ih_ct T) → ih_Mw x w ih_shX A Q 6 0 0 61 [(0, .ref (w.2.2 0)), (1, .int (nI sn)), (2, .int (nI ik)), (3, .int (nI nn)), (4, .ref (w.2.2 (2 + 2 * sn))), (5, .int (nI j))] [] S := by
            intro fu
            induction fu with
            | zero =>
              intro j hje S ⟨hX, hA2⟩
              have hj0 : j = nn := by omega
              refine s_iload C 5 dX7_order_61 rfl ?_
              refine s_iload_n C 3 dX7_order_63 rfl ?_
              refine s_icmp_geN 93 C dX7_order_64 (by decide) (by omega) (by omega) (fun h64 => ?_) (fun h64 => ?_)
              · refine s_perm [0, 1, 2, 3, 4] rfl ?_
                subst hj0
                exact hx_61 _ ⟨hX, hA2⟩
              · exfalso; omega
            | succ fu ih_61 =>
              intro j hje S ⟨hX, hA2⟩
              have hjl : j < nn := by omega
              have hp := hX.1
              refine s_iload C 5 dX7_order_61 rfl ?_
              refine s_iload_n C 3 dX7_order_63 rfl ?_
              refine s_icmp_geN 93 C dX7_order_64 (by decide) (by omega) (by omega) (fun h64 => ?_) (fun h64 => ?_)
              · exfalso; omega
              · refine s_aload_n C 0 dX7_order_67 rfl ?_
                refine s_aload C 4 dX7_order_68 rfl ?_
                refine s_getR C 5 0 (hp _ _ _ (ih_pX_it hsnb)) (by show 2 + 2 * sn < 62; omega) (ih_kX_sh hsnb) (by decide) rfl (fun _ h => List.mem_cons_of_mem _ (List.mem_append_left _ (List.mem_append_right _ h))) (by decide) rfl (by decide +kernel) dX7_order_70 ?_
                refine s_iload_n C 2 dX7_order_73 rfl ?_
                refine s_iload C 5 dX7_order_74 rfl ?_
                refine s_iaddN C dX7_order_76 ?_
                refine s_iaload C 60 (ik + j) rfl (ih_lX_it hsnb) (by omega) (by decide) (by show 3 + 2 * sn < 62; omega) (ih_kX_it hsnb) dX7_order_77 ?_
                refine s_toe (b := T 3 (60 * sn + ik + j)) (((hX.2.2.2.2.1 sn hsnb).2.2.2 (ik + j) (by omega)).trans (by rw [Nat.add_assoc])) ?_
                refine s_callVi 1 C (c_X7_isStriker _ w _ (ih_ct T) hct (ih_RX_ct hX hI) _) gX7_order_X7_isStriker rfl (by decide +kernel) (by decide) (by decide) (by decide) rfl (by decide) rfl rfl rfl (Nat.le_of_ble_eq_true rfl) dX7_order_78 ?_
                rintro rk78 S2 ⟨hrk78, hSS⟩
                obtain rfl := hSS.symm
                refine s_if_ne C 87 dX7_order_81 (by decide) (fun h81 => ?_) (fun h81 => ?_)
                · replace h81 := ih_b1 hrk78 h81
                  refine s_iinc (u := nI (j + 1)) (lv' := [(5, .int (nI (j + 1))), (0, .ref (w.2.2 0)), (1, .int (nI sn)), (2, .int (nI ik)), (3, .int (nI nn)), (4, .ref (w.2.2 (2 + 2 * sn)))]) C 5 dX7_order_87 rfl (ih_incN (by decide)) (by decide) rfl ?_
                  refine s_goto C 61 dX7_order_90 (by decide) ?_
                  refine s_perm [1, 2, 3, 4, 5, 0] rfl ?_
                  exact ih_61 (j + 1) (by omega) _ ⟨hX, fun k hk => by rcases Nat.lt_or_ge k j with q | q; exact hA2 k q; obtain rfl : k = j := (by omega); exact h81⟩
                · replace h81 := ih_b0 hrk78 h81
                  refine s_ldc (v := (-1000001)) C (by decide +kernel) dX7_order_84 ?_
                  rw [hQ]
                  exact s_ireturn C hA dX7_order_86 (by rw [sp_order, if_pos (show ((0 ≤ (nI sn).toInt ∧ (nI sn).toInt ≤ 7) ∧ (1 ≤ (nI nn).toInt ∧ (nI nn).toInt ≤ 9)) by omega), ih_n_nI hsn, ih_n_nI hik, ih_n_nI hnn, if_neg hmis, if_pos hhold, if_neg (fun q => h81 (q j hjl))]; exact ⟨rfl, hX⟩)
          refine s_perm [2, 3, 4, 5, 1, 0] rfl ?_
          exact loop_61 nn 0 (by omega) _ ⟨hX, fun k hk => absurd hk (Nat.not_lt_zero k)⟩
        · replace h49 := ih_b0 hrh46 h49
          refine s_aload_n C 1 dX7_order_52 rfl ?_
          refine s_iconst (v := nI 2) C dX7_order_53 (by decide) ?_
          refine s_callVi 1 C (c_X7_found _ w _ _) gX7_order_X7_found rfl (by decide +kernel) (by decide) (by decide) (by decide) rfl (by decide) rfl rfl rfl (Nat.le_of_ble_eq_true rfl) dX7_order_54 ?_
          rintro rf S2 ⟨hrf, hS2⟩
          rw [hQ]
          exact s_ireturn C hA dX7_order_57 (by rw [sp_order, if_pos (show ((0 ≤ (nI sn).toInt ∧ (nI sn).toInt ≤ 7) ∧ (1 ≤ (nI nn).toInt ∧ (nI nn).toInt ≤ 9)) by omega), ih_n_nI hsn, if_neg (by omega), if_neg (by omega)]; exact ⟨hrf, by rw [hS2]; exact ih_RX_f hX (nI 2)⟩)
      · replace h33 := ih_b1 ermi h33
        refine s_aload_n C 1 dX7_order_36 rfl ?_
        refine s_iconst (v := nI 1) C dX7_order_37 (by decide) ?_
        refine s_callVi 1 C (c_X7_found _ w _ _) gX7_order_X7_found rfl (by decide +kernel) (by decide) (by decide) (by decide) rfl (by decide) rfl rfl rfl (Nat.le_of_ble_eq_true rfl) dX7_order_38 ?_
        rintro rf S2 ⟨hrf, hS2⟩
        rw [hQ]
        exact s_ireturn C hA dX7_order_41 (by rw [sp_order, if_pos (show ((0 ≤ (nI sn).toInt ∧ (nI sn).toInt ≤ 7) ∧ (1 ≤ (nI nn).toInt ∧ (nI nn).toInt ≤ 9)) by omega), ih_n_nI hsn, if_pos (by omega)]; exact ⟨hrf, by rw [hS2]; exact ih_RX_f hX (nI 1)⟩)
    · replace h14 := ih_b0 hrw11 h14
      refine s_ldc (v := (-1000001)) C (by decide +kernel) dX7_order_17 ?_
      rw [hQ]
      exact s_ireturn C hA dX7_order_19 (by rw [sp_order, if_neg (by omega)]; exact ⟨rfl, hX⟩)

theorem ih_RX_cpy {S : ih_Sg} {T : ih_TT} (h : ih_RX S T) {a i b j n : Nat} (ha : a < 8) (hb : b < 8) (hi : i + n ≤ 60) (hj : j + n ≤ 60) : ih_RX (ih_sA S (3 + 2 * b) (va_cpy (S.1 (3 + 2 * a)) (S.1 (3 + 2 * b)) i j n)) (ih_cpy T (60 * a + i) (60 * b + j) n) := by
  have hr : ∀ k, k ≠ 3 → ih_cpy T (60 * a + i) (60 * b + j) n k = T k := by
    intro k hk
    funext q
    unfold ih_cpy
    rw [if_neg (by omega)]
  refine ih_RX_s h rfl (fun k hk => ih_sA_row (by omega)) ?_ (hr 0 (by decide)) (hr 4 (by decide)) (hr 5 (by decide)) (hr 9 (by decide)) (hr 13 (by decide))
  intro q hq
  have h5 := h.2.2.2.2.1 q hq
  have h5a := h.2.2.2.2.1 a ha
  rw [hr 1 (by decide), hr 2 (by decide), ih_sA_row (by omega)]
  refine ⟨h5.1, h5.2.1, h5.2.2.1, fun z hz => ?_⟩
  by_cases he : q = b
  · subst he
    rw [ih_sA_s]
    unfold va_cpy ih_cpy
    by_cases hc : j ≤ z ∧ z < j + n
    · rw [if_pos hc, if_pos (by omega), h5a.2.2.2 _ (by omega)]
      exact congrArg (T 3) (by omega)
    · rw [if_neg hc, if_neg (by omega)]
      exact h5.2.2.2 z hz
  · rw [ih_sA_row (by omega)]
    unfold ih_cpy
    rw [if_neg (by omega)]
    exact h5.2.2.2 z hz
theorem ih_cpy_sw {T : ih_TT} {a b n d : Nat} {v : Int32} : ih_u2 (ih_cpy T a b n) 0 d v = ih_cpy (ih_u2 T 0 d v) a b n := by
  funext k j
  unfold ih_cpy ih_u2
  by_cases h1 : k = 0 ∧ j = d
  · rw [if_pos h1, if_neg (by omega), if_pos h1]
  · rw [if_neg h1]
    dsimp only
    by_cases h2 : k = 3 ∧ b ≤ j ∧ j < b + n
    · rw [if_pos h2, if_pos h2, if_neg (by omega)]
    · rw [if_neg h2, if_neg h2, if_neg h1]
set_option maxHeartbeats 4000000 in
set_option maxRecDepth 100000 in
theorem c_X7_copy (l : Launch) (w : ih_Wd) (S : ih_Sg) (T : ih_TT) (hX : ih_RX S T) (hI : ih_Inv T) (a i b j n : Int32) : ih_Ci l yX7_copy wsX7_copy 2 w ih_shX [.ref (w.2.2 0), .int a, .int i, .int b, .int j, .int n] S (fun r S' => r = (sp_copy T a i b j n).1 ∧ ih_RX S' (sp_copy T a i b j n).2) := by
  refine ih_bodyi (ret := some .int) rfl rfl (Nat.le_of_ble_eq_true rfl) ?_
  intro x A hA C
  have C : ih_Ok x w A cX7_copy 8 RX7 wsX7_copy (ih_rm 2) (some .int) := C
  show ih_Mw x w ih_shX A (ih_Qi x w ih_shX A _) 8 0 0 0 [(0, .ref (w.2.2 0)), (1, .int a), (2, .int i), (3, .int b), (4, .int j), (5, .int n)] [] S
  refine s_iload_n C 1 dX7_copy_0 rfl ?_
  refine s_callSi 1 C (c_X7_isSheet _ w _ _) gX7_copy_X7_isSheet rfl (by decide +kernel) (by decide) (by decide) rfl rfl (Nat.le_of_ble_eq_true rfl) dX7_copy_1 ?_
  rintro rs1 S2 ⟨hrs1, hSS⟩
  obtain rfl := hSS.symm
  refine s_if_eq C 14 dX7_copy_4 (by decide) (fun h4 => ?_) (fun h4 => ?_)
  · replace h4 := ih_b0 hrs1 h4
    refine s_ldc (v := (-1000001)) C (by decide +kernel) dX7_copy_14 ?_
    exact s_ireturn C hA dX7_copy_16 (by rw [sp_copy, if_neg (by omega)]; exact ⟨rfl, hX⟩)
  · replace h4 := ih_b1 hrs1 h4
    refine s_iload_n C 3 dX7_copy_7 rfl ?_
    refine s_callSi 1 C (c_X7_isSheet _ w _ _) gX7_copy_X7_isSheet rfl (by decide +kernel) (by decide) (by decide) rfl rfl (Nat.le_of_ble_eq_true rfl) dX7_copy_8 ?_
    rintro rs8 S2 ⟨hrs8, hSS⟩
    obtain rfl := hSS.symm
    refine s_if_ne C 17 dX7_copy_11 (by decide) (fun h11 => ?_) (fun h11 => ?_)
    · replace h11 := ih_b1 hrs8 h11
      obtain ⟨an, han, rfl, hant⟩ := ih_nat (a := a) h4.1
      have hanb : an < 8 := by omega
      obtain ⟨bn, hbn, rfl, hbnt⟩ := ih_nat (a := b) h11.1
      have hbnb : bn < 8 := by omega
      have hp := hX.1
      have hmna : ih_mn T an ≤ 60 := (hI.1 an hanb).2.2
      have hmnb : ih_mn T bn ≤ 60 := (hI.1 bn hbnb).2.2
      refine s_aload_n C 0 dX7_copy_17 rfl ?_
      refine s_getR C 7 0 (hp _ _ _ rfl) (by decide) rfl (by decide) rfl (fun _ h => List.mem_cons_of_mem _ (List.mem_append_left _ (List.mem_append_right _ h))) (by decide) rfl (by decide +kernel) dX7_copy_18 ?_
      refine s_iload_n C 1 dX7_copy_21 rfl ?_
      refine s_aaload C 8 (an) (hp _ _ _ (ih_pX_sh hanb)) rfl rfl (by omega) (by decide) (by decide) rfl (by decide) dX7_copy_22 ?_
      refine s_astore (lv' := [(6, .ref (w.2.2 (2 + 2 * an))), (0, .ref (w.2.2 0)), (1, .int (nI an)), (2, .int i), (3, .int (nI bn)), (4, .int j), (5, .int n)]) C dX7_copy_23 (by decide) rfl ?_
      refine s_aload_n C 1 dX7_copy_25 rfl ?_
      refine s_getR C 7 0 (hp _ _ _ rfl) (by decide) rfl (by decide) rfl (fun _ h => List.mem_cons_of_mem _ (List.mem_append_left _ (List.mem_append_right _ h))) (by decide) rfl (by decide +kernel) dX7_copy_26 ?_
      refine s_iload_n C 4 dX7_copy_29 rfl ?_
      refine s_aaload C 8 (bn) (hp _ _ _ (ih_pX_sh hbnb)) rfl rfl (by omega) (by decide) (by decide) rfl (by decide) dX7_copy_30 ?_
      refine s_astore (lv' := [(7, .ref (w.2.2 (2 + 2 * bn))), (6, .ref (w.2.2 (2 + 2 * an))), (0, .ref (w.2.2 0)), (1, .int (nI an)), (2, .int i), (3, .int (nI bn)), (4, .int j), (5, .int n)]) C dX7_copy_31 (by decide) rfl ?_
      refine s_aload C 1 dX7_copy_33 rfl ?_
      refine s_getI C 5 1 (by show 2 + 2 * an < 62; omega) (ih_kX_sh hanb) (by decide) rfl (fun _ h => List.mem_cons_of_mem _ (List.mem_append_right _ h)) (by decide) rfl (by decide +kernel) dX7_copy_35 ?_
      refine s_topi (fun rman eran => ?_)
      replace eran := eran.trans (hX.2.2.2.2.1 an hanb).1
      refine s_if_ne C 49 dX7_copy_38 (by decide) (fun h38 => ?_) (fun h38 => ?_)
      · replace h38 := ih_b1 eran h38
        refine s_aload_n C 2 dX7_copy_49 rfl ?_
        refine s_iconst (v := nI 1) C dX7_copy_50 (by decide) ?_
        refine s_callVi 1 C (c_X7_found _ w _ _) gX7_copy_X7_found rfl (by decide +kernel) (by decide) (by decide) (by decide) rfl (by decide) rfl rfl rfl (Nat.le_of_ble_eq_true rfl) dX7_copy_51 ?_
        rintro rf S2 ⟨hrf, hS2⟩
        exact s_ireturn C hA dX7_copy_54 (by rw [sp_copy, if_pos (show ((0 ≤ (nI an).toInt ∧ (nI an).toInt ≤ 7) ∧ (0 ≤ (nI bn).toInt ∧ (nI bn).toInt ≤ 7)) by omega), ih_n_nI han, ih_n_nI hbn, if_pos (by omega)]; exact ⟨hrf, by rw [hS2]; exact ih_RX_fd hX 1⟩)
      · replace h38 := ih_b0 eran h38
        refine s_aload C 0 dX7_copy_41 rfl ?_
        refine s_getI C 5 1 (by show 2 + 2 * bn < 62; omega) (ih_kX_sh hbnb) (by decide) rfl (fun _ h => List.mem_cons_of_mem _ (List.mem_append_right _ h)) (by decide) rfl (by decide +kernel) dX7_copy_43 ?_
        refine s_topi (fun rmbn erbn => ?_)
        replace erbn := erbn.trans (hX.2.2.2.2.1 bn hbnb).1
        refine s_if_eq C 55 dX7_copy_46 (by decide) (fun h46 => ?_) (fun h46 => ?_)
        · replace h46 := ih_b0 erbn h46
          refine s_aload C 1 dX7_copy_55 rfl ?_
          refine s_getI C 5 2 (by show 2 + 2 * an < 62; omega) (ih_kX_sh hanb) (by decide) rfl (fun _ h => List.mem_cons_of_mem _ (List.mem_append_right _ h)) (by decide) rfl (by decide +kernel) dX7_copy_57 ?_
          refine s_toe (b := T 1 an) ((hX.2.2.2.2.1 an hanb).2.1 (by omega)) ?_
          refine s_aload C 0 dX7_copy_60 rfl ?_
          refine s_getI C 5 2 (by show 2 + 2 * bn < 62; omega) (ih_kX_sh hbnb) (by decide) rfl (fun _ h => List.mem_cons_of_mem _ (List.mem_append_right _ h)) (by decide) rfl (by decide +kernel) dX7_copy_62 ?_
          refine s_toe (b := T 1 bn) ((hX.2.2.2.2.1 bn hbnb).2.1 (by omega)) ?_
          refine s_icmp_eq C 74 dX7_copy_65 (by decide) (fun h65 => ?_) (fun h65 => ?_)
          · refine s_aload C 1 dX7_copy_74 rfl ?_
            refine s_iload_n C 4 dX7_copy_76 rfl ?_
            refine s_iload C 7 dX7_copy_77 rfl ?_
            refine s_callVi 2 C (c_X5_holds _ w _ an (ih_mn T an) hanb (hI.1 an hanb).2.2 ((hX.2.2.2.2.1 an hanb).2.2.1.trans (hI.1 an hanb).2.1) _ _) gX7_copy_X5_holds rfl (by decide +kernel) (by decide) (by decide) (by show 2 + 2 * an < 62; omega) (ih_kX_sh hanb) (by decide) rfl rfl rfl (Nat.le_of_ble_eq_true rfl) dX7_copy_79 ?_
            rintro rh79 S2 ⟨hrh79, hSS⟩
            obtain rfl := hSS.symm
            refine s_if_eq C 97 dX7_copy_82 (by decide) (fun h82 => ?_) (fun h82 => ?_)
            · replace h82 := ih_b0 hrh79 h82
              refine s_aload_n C 2 dX7_copy_97 rfl ?_
              refine s_iconst (v := nI 2) C dX7_copy_98 (by decide) ?_
              refine s_callVi 1 C (c_X7_found _ w _ _) gX7_copy_X7_found rfl (by decide +kernel) (by decide) (by decide) (by decide) rfl (by decide) rfl rfl rfl (Nat.le_of_ble_eq_true rfl) dX7_copy_99 ?_
              rintro rf S2 ⟨hrf, hS2⟩
              exact s_ireturn C hA dX7_copy_102 (by rw [sp_copy, if_pos (show ((0 ≤ (nI an).toInt ∧ (nI an).toInt ≤ 7) ∧ (0 ≤ (nI bn).toInt ∧ (nI bn).toInt ≤ 7)) by omega), ih_n_nI han, ih_n_nI hbn, if_neg (by omega), if_pos h65, if_neg (by omega)]; exact ⟨hrf, by rw [hS2]; exact ih_RX_fd hX 2⟩)
            · replace h82 := ih_b1 hrh79 h82
              refine s_aload C 0 dX7_copy_85 rfl ?_
              refine s_iload C 6 dX7_copy_87 rfl ?_
              refine s_iload C 7 dX7_copy_89 rfl ?_
              refine s_callVi 2 C (c_X5_holds _ w _ bn (ih_mn T bn) hbnb (hI.1 bn hbnb).2.2 ((hX.2.2.2.2.1 bn hbnb).2.2.1.trans (hI.1 bn hbnb).2.1) _ _) gX7_copy_X5_holds rfl (by decide +kernel) (by decide) (by decide) (by show 2 + 2 * bn < 62; omega) (ih_kX_sh hbnb) (by decide) rfl rfl rfl (Nat.le_of_ble_eq_true rfl) dX7_copy_91 ?_
              rintro rh91 S2 ⟨hrh91, hSS⟩
              obtain rfl := hSS.symm
              refine s_if_ne C 103 dX7_copy_94 (by decide) (fun h94 => ?_) (fun h94 => ?_)
              · replace h94 := ih_b1 hrh91 h94
                obtain ⟨ik, hik, rfl, hikt⟩ := ih_nat (a := i) h82.1
                obtain ⟨jk, hjk, rfl, hjkt⟩ := ih_nat (a := j) h94.1
                obtain ⟨nk_, hnk_, rfl, hnk_t⟩ := ih_nat (a := n) h94.2.1
                refine s_aload C 1 dX7_copy_103 rfl ?_
                refine s_getR C 5 0 (hp _ _ _ (ih_pX_it hanb)) (by show 2 + 2 * an < 62; omega) (ih_kX_sh hanb) (by decide) rfl (fun _ h => List.mem_cons_of_mem _ (List.mem_append_right _ h)) (by decide) rfl (by decide +kernel) dX7_copy_105 ?_
                refine s_iload_n C 4 dX7_copy_108 rfl ?_
                refine s_aload C 0 dX7_copy_109 rfl ?_
                refine s_getR C 5 0 (hp _ _ _ (ih_pX_it hbnb)) (by show 2 + 2 * bn < 62; omega) (ih_kX_sh hbnb) (by decide) rfl (fun _ h => List.mem_cons_of_mem _ (List.mem_append_right _ h)) (by decide) rfl (by decide +kernel) dX7_copy_111 ?_
                refine s_iload C 6 dX7_copy_114 rfl ?_
                refine s_iload C 7 dX7_copy_116 rfl ?_
                refine s_copyi (k0 := 3 + 2 * an) (k1 := 3 + 2 * bn) (a := ik) (b := jk) (m := nk_) C (show 3 + 2 * an < 62 by omega) (ih_kX_it hanb) (show 3 + 2 * bn < 62 by omega) (ih_kX_it hbnb) (by rw [ih_lX_it hanb]; omega) (by rw [ih_lX_it hbnb]; omega) (by omega) (by omega) (by omega) (by decide +kernel) (by decide +kernel) (by decide +kernel) (by decide +kernel) (by decide) (by decide) dX7_copy_118 ?_
                refine s_aload_n C 2 dX7_copy_121 rfl ?_
                refine s_iload C 7 dX7_copy_122 rfl ?_
                refine s_callVi 1 C (c_X7_fine _ w _ _) gX7_copy_X7_fine rfl (by decide +kernel) (by decide) (by decide) (by decide) rfl (by decide) rfl rfl rfl (Nat.le_of_ble_eq_true rfl) dX7_copy_124 ?_
                rintro rf S3 ⟨hrf, hS3⟩
                exact s_ireturn C hA dX7_copy_127 (by rw [sp_copy, if_pos (show ((0 ≤ (nI an).toInt ∧ (nI an).toInt ≤ 7) ∧ (0 ≤ (nI bn).toInt ∧ (nI bn).toInt ≤ 7)) by omega), ih_n_nI han, ih_n_nI hbn, if_neg (by omega), if_pos h65, if_pos (by omega), ih_n_nI hik, ih_n_nI hjk, ih_n_nI hnk_]; exact ⟨hrf, by rw [hS3, ← ih_cpy_sw]; exact ih_RX_f (ih_RX_cpy hX hanb hbnb (by omega) (by omega)) (nI 0)⟩)
              · replace h94 := ih_b0 hrh91 h94
                refine s_aload_n C 2 dX7_copy_97 rfl ?_
                refine s_iconst (v := nI 2) C dX7_copy_98 (by decide) ?_
                refine s_callVi 1 C (c_X7_found _ w _ _) gX7_copy_X7_found rfl (by decide +kernel) (by decide) (by decide) (by decide) rfl (by decide) rfl rfl rfl (Nat.le_of_ble_eq_true rfl) dX7_copy_99 ?_
                rintro rf S2 ⟨hrf, hS2⟩
                exact s_ireturn C hA dX7_copy_102 (by rw [sp_copy, if_pos (show ((0 ≤ (nI an).toInt ∧ (nI an).toInt ≤ 7) ∧ (0 ≤ (nI bn).toInt ∧ (nI bn).toInt ≤ 7)) by omega), ih_n_nI han, ih_n_nI hbn, if_neg (by omega), if_pos h65, if_neg (by omega)]; exact ⟨hrf, by rw [hS2]; exact ih_RX_fd hX 2⟩)
          · refine s_aload_n C 2 dX7_copy_68 rfl ?_
            refine s_iconst (v := nI 5) C dX7_copy_69 (by decide) ?_
            refine s_callVi 1 C (c_X7_found _ w _ _) gX7_copy_X7_found rfl (by decide +kernel) (by decide) (by decide) (by decide) rfl (by decide) rfl rfl rfl (Nat.le_of_ble_eq_true rfl) dX7_copy_70 ?_
            rintro rf S2 ⟨hrf, hS2⟩
            exact s_ireturn C hA dX7_copy_73 (by rw [sp_copy, if_pos (show ((0 ≤ (nI an).toInt ∧ (nI an).toInt ≤ 7) ∧ (0 ≤ (nI bn).toInt ∧ (nI bn).toInt ≤ 7)) by omega), ih_n_nI han, ih_n_nI hbn, if_neg (by omega), if_neg h65]; exact ⟨hrf, by rw [hS2]; exact ih_RX_fd hX 5⟩)
        · replace h46 := ih_b1 erbn h46
          refine s_aload_n C 2 dX7_copy_49 rfl ?_
          refine s_iconst (v := nI 1) C dX7_copy_50 (by decide) ?_
          refine s_callVi 1 C (c_X7_found _ w _ _) gX7_copy_X7_found rfl (by decide +kernel) (by decide) (by decide) (by decide) rfl (by decide) rfl rfl rfl (Nat.le_of_ble_eq_true rfl) dX7_copy_51 ?_
          rintro rf S2 ⟨hrf, hS2⟩
          exact s_ireturn C hA dX7_copy_54 (by rw [sp_copy, if_pos (show ((0 ≤ (nI an).toInt ∧ (nI an).toInt ≤ 7) ∧ (0 ≤ (nI bn).toInt ∧ (nI bn).toInt ≤ 7)) by omega), ih_n_nI han, ih_n_nI hbn, if_pos (by omega)]; exact ⟨hrf, by rw [hS2]; exact ih_RX_fd hX 1⟩)
    · replace h11 := ih_b0 hrs8 h11
      refine s_ldc (v := (-1000001)) C (by decide +kernel) dX7_copy_14 ?_
      exact s_ireturn C hA dX7_copy_16 (by rw [sp_copy, if_neg (by omega)]; exact ⟨rfl, hX⟩)

