theorem ih_cg_c {T U : ih_TT} (h4 : U 4 = T 4) (h9 : U 9 = T 9) : ih_cg U = ih_cg T := by
  funext t a
  unfold ih_cg ih_ch ih_tm
  rw [h4, h9]
theorem ih_HT_c {T U : ih_TT} (h0 : U 0 = T 0) (h9 : U 9 = T 9) (h : ih_HT T) : ih_HT U := by
  intro t ht
  have := h t ht
  unfold ih_tm ih_ct at this ⊢
  rw [h9, h0]
  exact this
theorem rx_m_c {I J : Nat → Nat → Int32} {T U : ih_TT} (h : rx_m I T) (h1 : J 53 = I 53) (h2 : J 55 = I 55) (h0 : U 0 = T 0) (h4 : U 4 = T 4) (h9 : U 9 = T 9) : rx_m J U := by
  obtain ⟨kh, a, b, c, d⟩ := h
  refine ⟨kh, a, by rw [h1]; exact b, by rw [h2, ih_cg_c h4 h9]; exact c, fun q => ?_⟩
  obtain ⟨e, f⟩ := d q
  exact ⟨ih_HT_c h0 h9 e, by rw [h2, ih_cg_c h4 h9]; exact f⟩
/-- the sheets change, and nothing else -/
theorem ih_RX_s {S V : ih_Sg} {T U : ih_TT} (h : ih_RX S T) (h2 : V.2 = S.2) (hc : ∀ k, k < 2 ∨ 18 ≤ k → V.1 k = S.1 k) (hs : rx_s V.1 U) (h0 : U 0 = T 0) (h4 : U 4 = T 4) (h5 : U 5 = T 5) (h9 : U 9 = T 9) (h13 : U 13 = T 13) : ih_RX V U := by
  obtain ⟨g1, g2, g3, g4, g5, g6, g7, g8, g9, g10, g11⟩ := h
  refine ⟨?_, by rw [h2]; exact g2, by rw [hc 0 (by omega), h0]; exact g3, by rw [hc 0 (by omega), h0]; exact g4, hs, rx_k_c g6 (fun s hs => ⟨hc _ (by omega), hc _ (by omega)⟩) h4, ?_, ?_, ?_, ?_, rx_m_c g11 (hc 53 (by omega)) (hc 55 (by omega)) h0 h4 h9⟩
  · intro k j i q
    have := g1 k j i q
    rw [h2]; exact this
  · unfold rx_o; rw [hc 46 (by omega), hc 47 (by omega), h0, h5]; exact g7
  · unfold rx_t; rw [hc 54 (by omega), h9]; exact g8
  · unfold rx_a; rw [hc 60 (by omega), hc 61 (by omega), h0, h13]; exact g9
  · unfold rx_b; rw [hc 44 (by omega), hc 45 (by omega)]; exact g10
theorem ih_fill_at {X : ih_TT} {c b k j : Nat} {v : Int32} : ∀ n, ih_fill X c b v n k j = if k = c ∧ b ≤ j ∧ j < b + n then v else X k j
  | 0 => by rw [if_neg (by omega)]; rfl
  | n + 1 => by
    show ih_u2 (ih_fill X c b v n) c (b + n) v k j = _
    unfold ih_u2
    by_cases h : k = c ∧ j = b + n
    · rw [if_pos h, if_pos (by omega)]
    · rw [if_neg h, ih_fill_at n]
      by_cases h2 : k = c ∧ b ≤ j ∧ j < b + n
      · rw [if_pos h2, if_pos (by omega)]
      · rw [if_neg h2, if_neg (by omega)]
theorem ih_fill_row {X : ih_TT} {c b k n : Nat} {v : Int32} (h : k ≠ c) : ih_fill X c b v n k = X k := by
  funext j
  rw [ih_fill_at, if_neg (by omega)]
/-- a new sheet -/
theorem ih_RX_sheet {S : ih_Sg} {T : ih_TT} (h : ih_RX S T) {s : Nat} (hs : s < 8) {l n : Int32} (hl : ¬ l.toInt < 0) : ih_RX (ih_fa (ih_sI (ih_sI (ih_sI S (2 + 2 * s) 1 (nI 0)) (2 + 2 * s) 2 l) (2 + 2 * s) 3 n) (3 + 2 * s) 60 (nI 0)) (ih_fill (ih_u2 (ih_u2 T 1 s l) 2 s n) 3 (60 * s) (nI 0) 60) := by
  have hrow : ∀ k, k ≠ 2 + 2 * s → k ≠ 3 + 2 * s → (ih_fa (ih_sI (ih_sI (ih_sI S (2 + 2 * s) 1 (nI 0)) (2 + 2 * s) 2 l) (2 + 2 * s) 3 n) (3 + 2 * s) 60 (nI 0)).1 k = S.1 k := by
    intro k h1 h2
    funext j
    show (if k = 3 + 2 * s ∧ j < 60 then _ else ih_u2 (ih_u2 (ih_u2 S.1 (2 + 2 * s) 1 (nI 0)) (2 + 2 * s) 2 l) (2 + 2 * s) 3 n k j) = _
    rw [if_neg (by omega), ih_u2_k h1, ih_u2_k h1, ih_u2_k h1]
  refine ih_RX_s h rfl (fun k hk => hrow k (by omega) (by omega)) ?_ ?_ ?_ ?_ ?_ ?_
  · intro q hq
    by_cases he : q = s
    · subst he
      have e2 : ∀ j, (ih_fa (ih_sI (ih_sI (ih_sI S (2 + 2 * q) 1 (nI 0)) (2 + 2 * q) 2 l) (2 + 2 * q) 3 n) (3 + 2 * q) 60 (nI 0)).1 (2 + 2 * q) j = ih_u2 (ih_u2 (ih_u2 S.1 (2 + 2 * q) 1 (nI 0)) (2 + 2 * q) 2 l) (2 + 2 * q) 3 n (2 + 2 * q) j := fun j => if_neg (by omega)
      have t1 : ih_fill (ih_u2 (ih_u2 T 1 q l) 2 q n) 3 (60 * q) (nI 0) 60 1 q = l := by rw [ih_fill_row (by decide), ih_u2_k (by decide), ih_u2_s]
      have t2 : ih_fill (ih_u2 (ih_u2 T 1 q l) 2 q n) 3 (60 * q) (nI 0) 60 2 q = n := by rw [ih_fill_row (by decide), ih_u2_s]
      rw [t1, t2, e2, e2, e2, if_neg hl]
      refine ⟨?_, fun _ => ?_, ih_u2_s, fun j hj => ?_⟩
      · rw [ih_u2_j (by decide), ih_u2_j (by decide), ih_u2_s]
      · rw [ih_u2_j (by decide), ih_u2_s]
      · rw [ih_fill_at, if_pos (by omega)]
        exact if_pos ⟨rfl, hj⟩
    · have h5 := h.2.2.2.2.1 q hq
      rw [hrow _ (by omega) (by omega), hrow _ (by omega) (by omega), ih_fill_row (by decide), ih_fill_row (by decide), ih_u2_k (by decide), ih_u2_j he, ih_u2_j he]
      refine ⟨h5.1, h5.2.1, ?_, fun j hj => ?_⟩
      · exact h5.2.2.1
      · rw [ih_fill_at, if_neg (by omega)]
        exact h5.2.2.2 j hj
  · rw [ih_fill_row (by decide)]; rfl
  · rw [ih_fill_row (by decide)]; rfl
  · rw [ih_fill_row (by decide)]; rfl
  · rw [ih_fill_row (by decide)]; rfl
  · rw [ih_fill_row (by decide)]; rfl
theorem ih_u2_sw {T : ih_TT} {a b c d : Nat} {v w : Int32} (h : a ≠ c) : ih_u2 (ih_u2 T a b v) c d w = ih_u2 (ih_u2 T c d w) a b v := by
  funext k j
  unfold ih_u2
  by_cases h1 : k = c ∧ j = d
  · rw [if_pos h1, if_neg (by omega), if_pos h1]
  · by_cases h2 : k = a ∧ j = b
    · rw [if_neg h1, if_pos h2, if_pos h2]
    · rw [if_neg h1, if_neg h2, if_neg h2, if_neg h1]
theorem ih_fill_sw {X : ih_TT} {c b n a d : Nat} {v w : Int32} (h : a ≠ c) : ih_u2 (ih_fill X c b v n) a d w = ih_fill (ih_u2 X a d w) c b v n := by
  funext k j
  rw [ih_fill_at]
  unfold ih_u2
  by_cases h1 : k = a ∧ j = d
  · rw [if_pos h1, if_neg (by omega), if_pos h1]
  · rw [if_neg h1, ih_fill_at, if_neg h1]
set_option maxHeartbeats 4000000 in
set_option maxRecDepth 100000 in
theorem c_X7_sheet (l : Launch) (w : ih_Wd) (S : ih_Sg) (T : ih_TT) (hX : ih_RX S T) (hI : ih_Inv T) (s l_ n : Int32) : ih_Ci l yX7_sheet wsX7_sheet 2 w ih_shX [.ref (w.2.2 0), .int s, .int l_, .int n] S (fun r S' => r = (sp_sheet T s l_ n).1 ∧ ih_RX S' (sp_sheet T s l_ n).2) := by
  refine ih_bodyi (ret := some .int) rfl rfl (Nat.le_of_ble_eq_true rfl) ?_
  intro x A hA C
  have C : ih_Ok x w A cX7_sheet 4 RX7 wsX7_sheet (ih_rm 2) (some .int) := C
  show ih_Mw x w ih_shX A (ih_Qi x w ih_shX A _) 4 0 0 0 [(0, .ref (w.2.2 0)), (1, .int s), (2, .int l_), (3, .int n)] [] S
  refine s_iload_n C 1 dX7_sheet_0 rfl ?_
  refine s_callSi 1 C (c_X7_isSheet _ w _ _) gX7_sheet_X7_isSheet rfl (by decide +kernel) (by decide) (by decide) rfl rfl (Nat.le_of_ble_eq_true rfl) dX7_sheet_1 ?_
  rintro rs1 S2 ⟨hrs1, hSS⟩
  obtain rfl := hSS.symm
  refine s_if_eq C 22 dX7_sheet_4 (by decide) (fun h4 => ?_) (fun h4 => ?_)
  · replace h4 := ih_b0 hrs1 h4
    refine s_ldc (v := (-1000001)) C (by decide +kernel) dX7_sheet_22 ?_
    exact s_ireturn C hA dX7_sheet_24 (by rw [sp_sheet, if_neg (by omega)]; exact ⟨rfl, hX⟩)
  · replace h4 := ih_b1 hrs1 h4
    obtain ⟨sn, hsn, rfl, hsnt⟩ := ih_nat (a := s) h4.1
    have hsnb : sn < 8 := by omega
    have hp := hX.1
    refine s_iload_n C 2 dX7_sheet_7 rfl ?_
    refine s_iconst (v := nI 0) C dX7_sheet_8 (by decide) ?_
    refine s_iconst (v := nI 2) C dX7_sheet_9 (by decide) ?_
    refine s_callSi 3 C (c_X7_within _ w _ _ _ _ _) gX7_sheet_X7_within rfl (by decide +kernel) (by decide) (by decide) rfl rfl (Nat.le_of_ble_eq_true rfl) dX7_sheet_10 ?_
    rintro rw10 S2 ⟨hrw10, hSS⟩
    obtain rfl := hSS.symm
    rw [ih_t (by decide), ih_t (by decide)] at hrw10
    refine s_if_eq C 22 dX7_sheet_13 (by decide) (fun h13 => ?_) (fun h13 => ?_)
    · replace h13 := ih_b0 hrw10 h13
      refine s_ldc (v := (-1000001)) C (by decide +kernel) dX7_sheet_22 ?_
      exact s_ireturn C hA dX7_sheet_24 (by rw [sp_sheet, if_neg (by omega)]; exact ⟨rfl, hX⟩)
    · replace h13 := ih_b1 hrw10 h13
      refine s_iload_n C 3 dX7_sheet_16 rfl ?_
      refine s_bipush (v := nI 60) C dX7_sheet_17 (by decide) ?_
      refine s_icmp_le C 25 dX7_sheet_19 (by decide) (fun h19 => ?_) (fun h19 => ?_)
      · simp only [ih_lei, ih_lti, ih_t0, ih_t (n := 60) (by omega)] at h19
        refine s_iload_n C 3 dX7_sheet_25 rfl ?_
        refine s_if_ge C 35 dX7_sheet_26 (by decide) (fun h26 => ?_) (fun h26 => ?_)
        · simp only [ih_lei, ih_lti, ih_t0] at h26
          refine s_aload_n C 0 dX7_sheet_35 rfl ?_
          refine s_getR C 7 0 (hp _ _ _ rfl) (by decide) rfl (by decide) rfl (fun _ h => List.mem_cons_of_mem _ (List.mem_append_left _ (List.mem_append_right _ h))) (by decide) rfl (by decide +kernel) dX7_sheet_36 ?_
          refine s_iload_n C 1 dX7_sheet_39 rfl ?_
          refine s_aaload C 8 (sn) (hp _ _ _ (ih_pX_sh hsnb)) rfl rfl (by omega) (by decide) (by decide) rfl (by decide) dX7_sheet_40 ?_
          refine s_iload_n C 2 dX7_sheet_41 rfl ?_
          refine s_iload_n C 3 dX7_sheet_42 rfl ?_
          refine s_callVv 2 C (c_X5_begin _ w _ hp sn hsnb _ _) gX7_sheet_X5_begin rfl (by decide +kernel) (by decide) (by decide) (by show 2 + 2 * sn < 62; omega) (ih_kX_sh hsnb) (by decide) rfl rfl rfl (Nat.le_of_ble_eq_true rfl) dX7_sheet_43 ?_
          rintro S4 hS4
          have hX4 := ih_RX_f (ih_RX_sheet hX hsnb (l := l_) (n := n) (by omega)) (nI 0)
          rw [← hS4, ih_fill_sw (by decide), ih_u2_sw (by decide), ih_u2_sw (a := 1) (by decide)] at hX4
          refine s_aload_n C 0 dX7_sheet_46 rfl ?_
          refine s_iload_n C 3 dX7_sheet_47 rfl ?_
          refine s_callVi 1 C (c_X7_fine _ w _ _) gX7_sheet_X7_fine rfl (by decide +kernel) (by decide) (by decide) (by decide) rfl (by decide) rfl rfl rfl (Nat.le_of_ble_eq_true rfl) dX7_sheet_48 ?_
          rintro rf S3 ⟨hrf, hS3⟩
          exact s_ireturn C hA dX7_sheet_51 (by rw [sp_sheet, if_pos (by omega), if_neg (by omega), ih_n_nI hsn]; exact ⟨hrf, by rw [hS3]; exact hX4⟩)
        · simp only [ih_lei, ih_lti, ih_t0] at h26
          refine s_aload_n C 0 dX7_sheet_29 rfl ?_
          refine s_iconst (v := nI 4) C dX7_sheet_30 (by decide) ?_
          refine s_callVi 1 C (c_X7_found _ w _ _) gX7_sheet_X7_found rfl (by decide +kernel) (by decide) (by decide) (by decide) rfl (by decide) rfl rfl rfl (Nat.le_of_ble_eq_true rfl) dX7_sheet_31 ?_
          rintro rf S2 ⟨hrf, hS2⟩
          exact s_ireturn C hA dX7_sheet_34 (by rw [sp_sheet, if_pos (by omega), if_pos (by omega)]; exact ⟨hrf, by rw [hS2]; exact ih_RX_fd hX 4⟩)
      · simp only [ih_lei, ih_lti, ih_t0, ih_t (n := 60) (by omega)] at h19
        refine s_ldc (v := (-1000001)) C (by decide +kernel) dX7_sheet_22 ?_
        exact s_ireturn C hA dX7_sheet_24 (by rw [sp_sheet, if_neg (by omega)]; exact ⟨rfl, hX⟩)

