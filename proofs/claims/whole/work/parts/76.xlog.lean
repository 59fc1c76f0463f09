/-! the class's reader of logs -/
theorem ih_RX_r {S V : ih_Sg} {T : ih_TT} (h : ih_RX S T) (h2 : V.2 = S.2) (hc : ∀ k, k ≠ 58 → k ≠ 59 → V.1 k = S.1 k) : ih_RX V T := by
  obtain ⟨g1, g2, g3, g4, g5, g6, g7, g8, g9, g10, g11⟩ := h
  refine ⟨fun k j i q => by rw [h2]; exact g1 k j i q, by rw [h2]; exact g2, by rw [hc 0 (by decide) (by decide)]; exact g3, by rw [hc 0 (by decide) (by decide)]; exact g4, rx_s_c g5 (fun s hs => ⟨hc _ (by omega) (by omega), hc _ (by omega) (by omega)⟩) ⟨rfl, rfl, rfl⟩, rx_k_c g6 (fun s hs => ⟨hc _ (by omega) (by omega), hc _ (by omega) (by omega)⟩) rfl, ?_, ?_, ?_, ?_, rx_m_d g11 (by rw [hc 53 (by decide) (by decide)]) (hc 55 (by decide) (by decide)) rfl rfl rfl⟩
  · unfold rx_o; rw [hc 46 (by decide) (by decide), hc 47 (by decide) (by decide)]; exact g7
  · unfold rx_t; rw [hc 54 (by decide) (by decide)]; exact g8
  · unfold rx_a; rw [hc 60 (by decide) (by decide), hc 61 (by decide) (by decide)]; exact g9
  · unfold rx_b; rw [hc 44 (by decide) (by decide), hc 45 (by decide) (by decide)]; exact g10
def ih_LR (I : Nat → Nat → Int32) (q : Int32 × Nat × Nat × Nat × (Nat → Nat)) : Prop := I 58 2 = q.1 ∧ I 58 5 = nI q.2.1 ∧ I 58 3 = nI q.2.2.1 ∧ I 58 4 = nI q.2.2.2.1 ∧ ∀ a, a < 9 → I 59 a = nI (q.2.2.2.2 a)
/-- the reader's numbers behind a row that fits -/
def ih_q1 (q : Int32 × Nat × Nat × Nat × (Nat → Nat)) (a : Nat) : Int32 × Nat × Nat × Nat × (Nat → Nat) := (q.1, ih_nx (ih_now q.2.1) a, q.2.2.1 + ih_rn (ih_now q.2.1) a, q.2.2.2.1 + (if ih_nx (ih_now q.2.1) a = 24 then 1 else 0), fun z => if z = a then q.2.2.2.2 z + 1 else q.2.2.2.2 z)
theorem ih_LR_b {S : ih_Sg} {q : Int32 × Nat × Nat × Nat × (Nat → Nat)} {v : Int32} (h : ih_LR S.1 q) : ih_LR (ih_sI S 58 2 v).1 (v, q.2) := ⟨ih_sI_s, (ih_sI_j (by decide)).trans h.2.1, (ih_sI_j (by decide)).trans h.2.2.1, (ih_sI_j (by decide)).trans h.2.2.2.1, fun a ha => (congrFun (ih_sI_row (by decide)) a).trans (h.2.2.2.2 a ha)⟩
theorem ih_LR_t {S : ih_Sg} {q : Int32 × Nat × Nat × Nat × (Nat → Nat)} {a : Nat} (h : ih_LR S.1 q) (hx : ¬ ih_nx (ih_now q.2.1) a = 24) : ih_LR (ih_sI (ih_sI (ih_sI S 59 a (nI (q.2.2.2.2 a + 1))) 58 3 (nI (q.2.2.1 + ih_rn (ih_now q.2.1) a))) 58 5 (nI (ih_nx (ih_now q.2.1) a))).1 (ih_q1 q a) := by
  refine ⟨?_, ih_sI_s, ?_, ?_, fun z hz => ?_⟩
  · rw [ih_sI_j (by decide), ih_sI_j (by decide), ih_sI_row (by decide)]; exact h.1
  · rw [ih_sI_j (by decide), ih_sI_s]; rfl
  · rw [ih_sI_j (by decide), ih_sI_j (by decide), ih_sI_row (by decide)]
    show _ = nI (q.2.2.2.1 + (if ih_nx (ih_now q.2.1) a = 24 then 1 else 0))
    rw [if_neg hx, Nat.add_zero]; exact h.2.2.2.1
  · rw [ih_sI_row (by decide), ih_sI_row (by decide)]
    show _ = nI (if z = a then q.2.2.2.2 z + 1 else q.2.2.2.2 z)
    by_cases e : z = a
    · rw [e, ih_sI_s, if_pos rfl]
    · rw [ih_sI_j e, if_neg e]; exact h.2.2.2.2 z hz
theorem ih_LR_u {S : ih_Sg} {q : Int32 × Nat × Nat × Nat × (Nat → Nat)} {a : Nat} (h : ih_LR S.1 q) (hx : ih_nx (ih_now q.2.1) a = 24) : ih_LR (ih_sI (ih_sI (ih_sI (ih_sI S 59 a (nI (q.2.2.2.2 a + 1))) 58 3 (nI (q.2.2.1 + ih_rn (ih_now q.2.1) a))) 58 5 (nI (ih_nx (ih_now q.2.1) a))) 58 4 (nI (q.2.2.2.1 + 1))).1 (ih_q1 q a) := by
  refine ⟨?_, ?_, ?_, ?_, fun z hz => ?_⟩
  · rw [ih_sI_j (by decide), ih_sI_j (by decide), ih_sI_j (by decide), ih_sI_row (by decide)]; exact h.1
  · rw [ih_sI_j (by decide), ih_sI_s]; rfl
  · rw [ih_sI_j (by decide), ih_sI_j (by decide), ih_sI_s]; rfl
  · rw [ih_sI_s]
    show _ = nI (q.2.2.2.1 + (if ih_nx (ih_now q.2.1) a = 24 then 1 else 0))
    rw [if_pos hx]
  · rw [ih_sI_row (by decide), ih_sI_row (by decide), ih_sI_row (by decide)]
    show _ = nI (if z = a then q.2.2.2.2 z + 1 else q.2.2.2.2 z)
    by_cases e : z = a
    · rw [e, ih_sI_s, if_pos rfl]
    · rw [ih_sI_j e, if_neg e]; exact h.2.2.2.2 z hz
def ih_fitq (q : Int32 × Nat × Nat × Nat × (Nat → Nat)) (a b e : Int32) : Prop := 0 ≤ a.toInt ∧ a.toInt ≤ 8 ∧ ih_may (ih_now q.2.1) (ih_n a) = true ∧ nI (ih_nx (ih_now q.2.1) (ih_n a)) = b ∧ nI (ih_rn (ih_now q.2.1) (ih_n a)) = e
theorem ih_none_ne {n : Nat} (h : n < 1000) : ¬ nI n = -1000000 := by
  intro e
  have h3 := congrArg Int32.toInt e
  rw [ih_t (by omega)] at h3
  have h4 : (-1000000 : Int32).toInt = -1000000 := rfl
  omega
set_option maxHeartbeats 4000000 in
set_option maxRecDepth 100000 in
theorem c_X3_fits (l : Launch) (w : ih_Wd) (S : ih_Sg) (T : ih_TT) (hX : ih_RX S T) (q : Int32 × Nat × Nat × Nat × (Nat → Nat)) (hL : ih_LR S.1 q) (hq24 : q.2.1 ≤ 24) (hq3 : q.2.2.1 < 1000000) (a b e : Int32) : ih_Ci l yX3_fits wsX3_fits 1 w ih_shX [.ref (w.2.2 58), .int a, .int b, .int e] S (fun r S' => (ih_fitq q a b e ∧ r = nI 1 ∧ ih_RX S' T ∧ ih_LR S'.1 (ih_q1 q (ih_n a))) ∨ (¬ ih_fitq q a b e ∧ r = nI 0 ∧ S' = S)) := by
  refine ih_bodyi (ret := some .boolean) rfl rfl (Nat.le_of_ble_eq_true rfl) ?_
  intro x A hA C
  have C : ih_Ok x w A cX3_fits 5 RX3 wsX3_fits (ih_rm 1) (some .boolean) := C
  show ih_Mw x w ih_shX A (ih_Qi x w ih_shX A _) 5 0 0 0 [(0, .ref (w.2.2 58)), (1, .int a), (2, .int b), (3, .int e)] [] S
  have hp := hX.1
  have hnw := ih_now_lt hq24
  refine s_aload_n C 0 dX3_fits_0 rfl ?_
  refine s_getI C 3 5 (by decide) rfl (by decide) rfl (fun _ h => List.mem_cons_of_mem _ (List.mem_append_left _ (List.mem_append_right _ h))) (by decide) rfl (by decide +kernel) dX3_fits_1 ?_
  refine s_toe hL.2.1 ?_
  refine s_bipush (v := nI 24) C dX3_fits_4 (by decide) ?_
  refine s_icmp_neN 13 C dX3_fits_6 (by decide) (by omega) (by omega) (fun h6 => ?_) (fun h6 => ?_)
  · refine s_aload_n C 0 dX3_fits_13 rfl ?_
    refine s_getI C 3 5 (by decide) rfl (by decide) rfl (fun _ h => List.mem_cons_of_mem _ (List.mem_append_left _ (List.mem_append_right _ h))) (by decide) rfl (by decide +kernel) dX3_fits_14 ?_
    refine s_toe hL.2.1 ?_
    refine s_toe (b := nI (ih_now q.2.1)) (congrArg nI (by unfold ih_now; rw [if_neg (by omega)])) ?_
    refine s_istore (lv' := [(4, .int (nI (ih_now q.2.1))), (0, .ref (w.2.2 58)), (1, .int a), (2, .int b), (3, .int e)]) C dX3_fits_17 (by decide) rfl ?_
    refine s_iload_n C 2 dX3_fits_19 rfl ?_
    refine s_iconst (v := nI 0) C dX3_fits_20 (by decide) ?_
    refine s_bipush (v := nI 8) C dX3_fits_21 (by decide) ?_
    refine s_callSNi 3 C (c_X7_within _ w _ _ _ _ _) gX3_fits_X7_within_n43 C.2.1.2.2.2.2.1 (by decide +kernel) (by decide +kernel) rfl (by decide +kernel) (by decide) (by decide) rfl rfl (Nat.le_of_ble_eq_true rfl) dX3_fits_23 ?_
    rintro rw S2 ⟨hrw, hSS⟩
    obtain rfl := hSS.symm
    rw [ih_t (n := 0) (by decide), ih_t (n := 8) (by decide)] at hrw
    refine s_if_eq C 72 dX3_fits_26 (by decide) (fun h26 => ?_) (fun h26 => ?_)
    · replace h26 := ih_b0 hrw h26
      refine s_iconst (v := nI 0) C dX3_fits_72 (by decide) ?_
      exact s_zreturn C hA dX3_fits_73 (by decide) (Or.inr ⟨fun z => h26 ⟨z.1, z.2.1⟩, rfl, rfl⟩)
    · replace h26 := ih_b1 hrw h26
      obtain ⟨an, han, rfl, hant⟩ := ih_nat (a := a) h26.1
      have hanb : an < 9 := by omega
      refine s_aload_n C 1 dX3_fits_29 rfl ?_
      refine s_getR C 3 0 (hp _ _ _ rfl) (by decide) rfl (by decide) rfl (fun _ h => List.mem_cons_of_mem _ (List.mem_append_left _ (List.mem_append_right _ h))) (by decide) rfl (by decide +kernel) dX3_fits_30 ?_
      refine s_iload C 0 dX3_fits_33 rfl ?_
      refine s_iload_n C 2 dX3_fits_35 rfl ?_
      refine s_callVi 2 C (c_X1_standingAfter _ w _ hp (ih_now q.2.1) an hnw (by omega)) gX3_fits_X1_standingAfter rfl (by decide +kernel) (by decide) (by decide) (by decide) rfl (by decide) rfl rfl rfl (Nat.le_of_ble_eq_true rfl) dX3_fits_36 ?_
      rintro ra S2 ⟨hra, hSS⟩
      obtain rfl := hSS.symm
      rw [(hX.2.2.2.2.2.2.2.2.2.1 _ hnw an (by omega)).1] at hra
      refine s_ldc (v := (-1000000)) C (by decide +kernel) dX3_fits_39 ?_
      refine s_icmp_eq C 72 dX3_fits_41 (by decide) (fun h41 => ?_) (fun h41 => ?_)
      · refine s_iconst (v := nI 0) C dX3_fits_72 (by decide) ?_
        exact s_zreturn C hA dX3_fits_73 (by decide) (Or.inr ⟨fun z => by have z3 := z.2.2.1; rw [ih_n_nI han] at z3; rw [if_pos z3] at hra; exact ih_none_ne (by have := ih_nx_le _ hnw an (by omega); omega) (hra.symm.trans h41), rfl, rfl⟩)
      · refine s_aload_n C 1 dX3_fits_44 rfl ?_
        refine s_getR C 3 0 (hp _ _ _ rfl) (by decide) rfl (by decide) rfl (fun _ h => List.mem_cons_of_mem _ (List.mem_append_left _ (List.mem_append_right _ h))) (by decide) rfl (by decide +kernel) dX3_fits_45 ?_
        refine s_iload C 0 dX3_fits_48 rfl ?_
        refine s_iload_n C 2 dX3_fits_50 rfl ?_
        refine s_callVi 2 C (c_X1_standingAfter _ w _ hp (ih_now q.2.1) an hnw (by omega)) gX3_fits_X1_standingAfter rfl (by decide +kernel) (by decide) (by decide) (by decide) rfl (by decide) rfl rfl rfl (Nat.le_of_ble_eq_true rfl) dX3_fits_51 ?_
        rintro rb S2 ⟨hrb, hSS⟩
        obtain rfl := hSS.symm
        rw [(hX.2.2.2.2.2.2.2.2.2.1 _ hnw an (by omega)).1] at hrb
        refine s_iload_n C 3 dX3_fits_54 rfl ?_
        refine s_icmp_ne C 72 dX3_fits_55 (by decide) (fun h55 => ?_) (fun h55 => ?_)
        · refine s_iconst (v := nI 0) C dX3_fits_72 (by decide) ?_
          exact s_zreturn C hA dX3_fits_73 (by decide) (Or.inr ⟨fun z => by have z3 := z.2.2.1; have z4 := z.2.2.2.1; rw [ih_n_nI han] at z3 z4; rw [if_pos z3] at hrb; exact h55 (hrb.trans z4), rfl, rfl⟩)
        · refine s_aload_n C 1 dX3_fits_58 rfl ?_
          refine s_getR C 3 0 (hp _ _ _ rfl) (by decide) rfl (by decide) rfl (fun _ h => List.mem_cons_of_mem _ (List.mem_append_left _ (List.mem_append_right _ h))) (by decide) rfl (by decide +kernel) dX3_fits_59 ?_
          refine s_iload C 0 dX3_fits_62 rfl ?_
          refine s_iload_n C 2 dX3_fits_64 rfl ?_
          refine s_callVi 2 C (c_X1_runsOf _ w _ hp (ih_now q.2.1) an hnw (by omega)) gX3_fits_X1_runsOf rfl (by decide +kernel) (by decide) (by decide) (by decide) rfl (by decide) rfl rfl rfl (Nat.le_of_ble_eq_true rfl) dX3_fits_65 ?_
          rintro rc S2 ⟨hrc, hSS⟩
          obtain rfl := hSS.symm
          rw [(hX.2.2.2.2.2.2.2.2.2.1 _ hnw an (by omega)).2] at hrc
          refine s_iload_n C 4 dX3_fits_68 rfl ?_
          refine s_icmp_eq C 74 dX3_fits_69 (by decide) (fun h69 => ?_) (fun h69 => ?_)
          · have hm : ih_may (ih_now q.2.1) an = true := by
              cases hmm : ih_may (ih_now q.2.1) an with
              | true => rfl
              | false => rw [hmm, if_neg (by decide)] at hra; exact absurd hra h41
            rw [if_pos hm] at hrb hrc
            have hbe : b = nI (ih_nx (ih_now q.2.1) an) := h55.symm.trans hrb
            have hee : e = nI (ih_rn (ih_now q.2.1) an) := h69.symm.trans hrc
            subst hbe
            subst hee
            have hrn := ih_rn_le _ hnw an (by omega)
            have hnx := ih_nx_le _ hnw an (by omega)
            refine s_aload_n C 1 dX3_fits_74 rfl ?_
            refine s_getR C 3 1 (hp _ _ _ rfl) (by decide) rfl (by decide) rfl (fun _ h => List.mem_cons_of_mem _ (List.mem_append_left _ (List.mem_append_right _ h))) (by decide) rfl (by decide +kernel) dX3_fits_75 ?_
            refine s_iload_n C 2 dX3_fits_78 rfl ?_
            refine s_dup2 C dX3_fits_79 rfl rfl ?_
            refine s_iaload C 9 (an) rfl rfl (by omega) (by decide) (by decide) rfl dX3_fits_80 ?_
            refine s_toe (hL.2.2.2.2 an (by omega)) ?_
            refine s_iconst (v := nI 1) C dX3_fits_81 (by decide) ?_
            refine s_iaddN C dX3_fits_82 ?_
            refine s_iastore C 9 (an) rfl rfl (by omega) (by decide) (by decide) rfl dX3_fits_83 ?_
            refine s_aload_n C 1 dX3_fits_84 rfl ?_
            refine s_dup C dX3_fits_85 rfl ?_
            refine s_getI C 3 3 (by decide) rfl (by decide) rfl (fun _ h => List.mem_cons_of_mem _ (List.mem_append_left _ (List.mem_append_right _ h))) (by decide) rfl (by decide +kernel) dX3_fits_86 ?_
            refine s_toe (b := nI q.2.2.1) ((congrFun (ih_sI_row (by decide)) _).trans hL.2.2.1) ?_
            refine s_iload_n C 4 dX3_fits_89 rfl ?_
            refine s_iaddN C dX3_fits_90 ?_
            refine s_putI (ty := .int) C 3 3 tyX3 tyX3_ok nmX3 (by decide) rfl (by decide) rfl (fun _ h => List.mem_cons_of_mem _ (List.mem_append_left _ (List.mem_append_right _ h))) (by decide) rfl (by decide +kernel) rfl (by decide +kernel) rfl rfl dX3_fits_91 ?_
            refine s_aload_n C 1 dX3_fits_94 rfl ?_
            refine s_iload_n C 3 dX3_fits_95 rfl ?_
            refine s_putI (ty := .int) C 3 5 tyX3 tyX3_ok nmX3 (by decide) rfl (by decide) rfl (fun _ h => List.mem_cons_of_mem _ (List.mem_append_left _ (List.mem_append_right _ h))) (by decide) rfl (by decide +kernel) rfl (by decide +kernel) rfl rfl dX3_fits_96 ?_
            refine s_iload_n C 3 dX3_fits_99 rfl ?_
            refine s_bipush (v := nI 24) C dX3_fits_100 (by decide) ?_
            refine s_icmp_neN 115 C dX3_fits_102 (by decide) (by omega) (by omega) (fun h102 => ?_) (fun h102 => ?_)
            · refine s_iconst (v := nI 1) C dX3_fits_115 (by decide) ?_
              exact s_zreturn C hA dX3_fits_116 (by decide) (Or.inl ⟨⟨h26.1, h26.2, by rw [ih_n_nI han]; exact hm, by rw [ih_n_nI han], by rw [ih_n_nI han]⟩, rfl, ih_RX_r hX rfl (fun k h1 h2 => (ih_sI_row h1).trans ((ih_sI_row h1).trans (ih_sI_row h2))), by rw [ih_n_nI han]; exact ih_LR_t hL (by omega)⟩)
            · refine s_aload_n C 1 dX3_fits_105 rfl ?_
              refine s_dup C dX3_fits_106 rfl ?_
              refine s_getI C 3 4 (by decide) rfl (by decide) rfl (fun _ h => List.mem_cons_of_mem _ (List.mem_append_left _ (List.mem_append_right _ h))) (by decide) rfl (by decide +kernel) dX3_fits_107 ?_
              refine s_toe (b := nI q.2.2.2.1) ((ih_sI_j (by decide)).trans ((ih_sI_j (by decide)).trans ((congrFun (ih_sI_row (by decide)) _).trans hL.2.2.2.1))) ?_
              refine s_iconst (v := nI 1) C dX3_fits_110 (by decide) ?_
              refine s_iaddN C dX3_fits_111 ?_
              refine s_putI (ty := .int) C 3 4 tyX3 tyX3_ok nmX3 (by decide) rfl (by decide) rfl (fun _ h => List.mem_cons_of_mem _ (List.mem_append_left _ (List.mem_append_right _ h))) (by decide) rfl (by decide +kernel) rfl (by decide +kernel) rfl rfl dX3_fits_112 ?_
              refine s_iconst (v := nI 1) C dX3_fits_115 (by decide) ?_
              exact s_zreturn C hA dX3_fits_116 (by decide) (Or.inl ⟨⟨h26.1, h26.2, by rw [ih_n_nI han]; exact hm, by rw [ih_n_nI han], by rw [ih_n_nI han]⟩, rfl, ih_RX_r hX rfl (fun k h1 h2 => (ih_sI_row h1).trans ((ih_sI_row h1).trans ((ih_sI_row h1).trans (ih_sI_row h2)))), by rw [ih_n_nI han]; exact ih_LR_u hL (by omega)⟩)
          · refine s_iconst (v := nI 0) C dX3_fits_72 (by decide) ?_
            exact s_zreturn C hA dX3_fits_73 (by decide) (Or.inr ⟨fun z => by have z3 := z.2.2.1; have z4 := z.2.2.2.2; rw [ih_n_nI han] at z3 z4; rw [if_pos z3] at hrc; exact h69 (hrc.trans z4), rfl, rfl⟩)
  · refine s_iconst (v := nI 0) C dX3_fits_9 (by decide) ?_
    refine s_goto C 17 dX3_fits_10 (by decide) ?_
    refine s_toe (b := nI (ih_now q.2.1)) (congrArg nI (by unfold ih_now; rw [if_pos (by omega)])) ?_
    refine s_istore (lv' := [(4, .int (nI (ih_now q.2.1))), (0, .ref (w.2.2 58)), (1, .int a), (2, .int b), (3, .int e)]) C dX3_fits_17 (by decide) rfl ?_
    refine s_iload_n C 2 dX3_fits_19 rfl ?_
    refine s_iconst (v := nI 0) C dX3_fits_20 (by decide) ?_
    refine s_bipush (v := nI 8) C dX3_fits_21 (by decide) ?_
    refine s_callSNi 3 C (c_X7_within _ w _ _ _ _ _) gX3_fits_X7_within_n43 C.2.1.2.2.2.2.1 (by decide +kernel) (by decide +kernel) rfl (by decide +kernel) (by decide) (by decide) rfl rfl (Nat.le_of_ble_eq_true rfl) dX3_fits_23 ?_
    rintro rw S2 ⟨hrw, hSS⟩
    obtain rfl := hSS.symm
    rw [ih_t (n := 0) (by decide), ih_t (n := 8) (by decide)] at hrw
    refine s_if_eq C 72 dX3_fits_26 (by decide) (fun h26 => ?_) (fun h26 => ?_)
    · replace h26 := ih_b0 hrw h26
      refine s_iconst (v := nI 0) C dX3_fits_72 (by decide) ?_
      exact s_zreturn C hA dX3_fits_73 (by decide) (Or.inr ⟨fun z => h26 ⟨z.1, z.2.1⟩, rfl, rfl⟩)
    · replace h26 := ih_b1 hrw h26
      obtain ⟨an, han, rfl, hant⟩ := ih_nat (a := a) h26.1
      have hanb : an < 9 := by omega
      refine s_aload_n C 1 dX3_fits_29 rfl ?_
      refine s_getR C 3 0 (hp _ _ _ rfl) (by decide) rfl (by decide) rfl (fun _ h => List.mem_cons_of_mem _ (List.mem_append_left _ (List.mem_append_right _ h))) (by decide) rfl (by decide +kernel) dX3_fits_30 ?_
      refine s_iload C 0 dX3_fits_33 rfl ?_
      refine s_iload_n C 2 dX3_fits_35 rfl ?_
      refine s_callVi 2 C (c_X1_standingAfter _ w _ hp (ih_now q.2.1) an hnw (by omega)) gX3_fits_X1_standingAfter rfl (by decide +kernel) (by decide) (by decide) (by decide) rfl (by decide) rfl rfl rfl (Nat.le_of_ble_eq_true rfl) dX3_fits_36 ?_
      rintro ra S2 ⟨hra, hSS⟩
      obtain rfl := hSS.symm
      rw [(hX.2.2.2.2.2.2.2.2.2.1 _ hnw an (by omega)).1] at hra
      refine s_ldc (v := (-1000000)) C (by decide +kernel) dX3_fits_39 ?_
      refine s_icmp_eq C 72 dX3_fits_41 (by decide) (fun h41 => ?_) (fun h41 => ?_)
      · refine s_iconst (v := nI 0) C dX3_fits_72 (by decide) ?_
        exact s_zreturn C hA dX3_fits_73 (by decide) (Or.inr ⟨fun z => by have z3 := z.2.2.1; rw [ih_n_nI han] at z3; rw [if_pos z3] at hra; exact ih_none_ne (by have := ih_nx_le _ hnw an (by omega); omega) (hra.symm.trans h41), rfl, rfl⟩)
      · refine s_aload_n C 1 dX3_fits_44 rfl ?_
        refine s_getR C 3 0 (hp _ _ _ rfl) (by decide) rfl (by decide) rfl (fun _ h => List.mem_cons_of_mem _ (List.mem_append_left _ (List.mem_append_right _ h))) (by decide) rfl (by decide +kernel) dX3_fits_45 ?_
        refine s_iload C 0 dX3_fits_48 rfl ?_
        refine s_iload_n C 2 dX3_fits_50 rfl ?_
        refine s_callVi 2 C (c_X1_standingAfter _ w _ hp (ih_now q.2.1) an hnw (by omega)) gX3_fits_X1_standingAfter rfl (by decide +kernel) (by decide) (by decide) (by decide) rfl (by decide) rfl rfl rfl (Nat.le_of_ble_eq_true rfl) dX3_fits_51 ?_
        rintro rb S2 ⟨hrb, hSS⟩
        obtain rfl := hSS.symm
        rw [(hX.2.2.2.2.2.2.2.2.2.1 _ hnw an (by omega)).1] at hrb
        refine s_iload_n C 3 dX3_fits_54 rfl ?_
        refine s_icmp_ne C 72 dX3_fits_55 (by decide) (fun h55 => ?_) (fun h55 => ?_)
        · refine s_iconst (v := nI 0) C dX3_fits_72 (by decide) ?_
          exact s_zreturn C hA dX3_fits_73 (by decide) (Or.inr ⟨fun z => by have z3 := z.2.2.1; have z4 := z.2.2.2.1; rw [ih_n_nI han] at z3 z4; rw [if_pos z3] at hrb; exact h55 (hrb.trans z4), rfl, rfl⟩)
        · refine s_aload_n C 1 dX3_fits_58 rfl ?_
          refine s_getR C 3 0 (hp _ _ _ rfl) (by decide) rfl (by decide) rfl (fun _ h => List.mem_cons_of_mem _ (List.mem_append_left _ (List.mem_append_right _ h))) (by decide) rfl (by decide +kernel) dX3_fits_59 ?_
          refine s_iload C 0 dX3_fits_62 rfl ?_
          refine s_iload_n C 2 dX3_fits_64 rfl ?_
          refine s_callVi 2 C (c_X1_runsOf _ w _ hp (ih_now q.2.1) an hnw (by omega)) gX3_fits_X1_runsOf rfl (by decide +kernel) (by decide) (by decide) (by decide) rfl (by decide) rfl rfl rfl (Nat.le_of_ble_eq_true rfl) dX3_fits_65 ?_
          rintro rc S2 ⟨hrc, hSS⟩
          obtain rfl := hSS.symm
          rw [(hX.2.2.2.2.2.2.2.2.2.1 _ hnw an (by omega)).2] at hrc
          refine s_iload_n C 4 dX3_fits_68 rfl ?_
          refine s_icmp_eq C 74 dX3_fits_69 (by decide) (fun h69 => ?_) (fun h69 => ?_)
          · have hm : ih_may (ih_now q.2.1) an = true := by
              cases hmm : ih_may (ih_now q.2.1) an with
              | true => rfl
              | false => rw [hmm, if_neg (by decide)] at hra; exact absurd hra h41
            rw [if_pos hm] at hrb hrc
            have hbe : b = nI (ih_nx (ih_now q.2.1) an) := h55.symm.trans hrb
            have hee : e = nI (ih_rn (ih_now q.2.1) an) := h69.symm.trans hrc
            subst hbe
            subst hee
            have hrn := ih_rn_le _ hnw an (by omega)
            have hnx := ih_nx_le _ hnw an (by omega)
            refine s_aload_n C 1 dX3_fits_74 rfl ?_
            refine s_getR C 3 1 (hp _ _ _ rfl) (by decide) rfl (by decide) rfl (fun _ h => List.mem_cons_of_mem _ (List.mem_append_left _ (List.mem_append_right _ h))) (by decide) rfl (by decide +kernel) dX3_fits_75 ?_
            refine s_iload_n C 2 dX3_fits_78 rfl ?_
            refine s_dup2 C dX3_fits_79 rfl rfl ?_
            refine s_iaload C 9 (an) rfl rfl (by omega) (by decide) (by decide) rfl dX3_fits_80 ?_
            refine s_toe (hL.2.2.2.2 an (by omega)) ?_
            refine s_iconst (v := nI 1) C dX3_fits_81 (by decide) ?_
            refine s_iaddN C dX3_fits_82 ?_
            refine s_iastore C 9 (an) rfl rfl (by omega) (by decide) (by decide) rfl dX3_fits_83 ?_
            refine s_aload_n C 1 dX3_fits_84 rfl ?_
            refine s_dup C dX3_fits_85 rfl ?_
            refine s_getI C 3 3 (by decide) rfl (by decide) rfl (fun _ h => List.mem_cons_of_mem _ (List.mem_append_left _ (List.mem_append_right _ h))) (by decide) rfl (by decide +kernel) dX3_fits_86 ?_
            refine s_toe (b := nI q.2.2.1) ((congrFun (ih_sI_row (by decide)) _).trans hL.2.2.1) ?_
            refine s_iload_n C 4 dX3_fits_89 rfl ?_
            refine s_iaddN C dX3_fits_90 ?_
            refine s_putI (ty := .int) C 3 3 tyX3 tyX3_ok nmX3 (by decide) rfl (by decide) rfl (fun _ h => List.mem_cons_of_mem _ (List.mem_append_left _ (List.mem_append_right _ h))) (by decide) rfl (by decide +kernel) rfl (by decide +kernel) rfl rfl dX3_fits_91 ?_
            refine s_aload_n C 1 dX3_fits_94 rfl ?_
            refine s_iload_n C 3 dX3_fits_95 rfl ?_
            refine s_putI (ty := .int) C 3 5 tyX3 tyX3_ok nmX3 (by decide) rfl (by decide) rfl (fun _ h => List.mem_cons_of_mem _ (List.mem_append_left _ (List.mem_append_right _ h))) (by decide) rfl (by decide +kernel) rfl (by decide +kernel) rfl rfl dX3_fits_96 ?_
            refine s_iload_n C 3 dX3_fits_99 rfl ?_
            refine s_bipush (v := nI 24) C dX3_fits_100 (by decide) ?_
            refine s_icmp_neN 115 C dX3_fits_102 (by decide) (by omega) (by omega) (fun h102 => ?_) (fun h102 => ?_)
            · refine s_iconst (v := nI 1) C dX3_fits_115 (by decide) ?_
              exact s_zreturn C hA dX3_fits_116 (by decide) (Or.inl ⟨⟨h26.1, h26.2, by rw [ih_n_nI han]; exact hm, by rw [ih_n_nI han], by rw [ih_n_nI han]⟩, rfl, ih_RX_r hX rfl (fun k h1 h2 => (ih_sI_row h1).trans ((ih_sI_row h1).trans (ih_sI_row h2))), by rw [ih_n_nI han]; exact ih_LR_t hL (by omega)⟩)
            · refine s_aload_n C 1 dX3_fits_105 rfl ?_
              refine s_dup C dX3_fits_106 rfl ?_
              refine s_getI C 3 4 (by decide) rfl (by decide) rfl (fun _ h => List.mem_cons_of_mem _ (List.mem_append_left _ (List.mem_append_right _ h))) (by decide) rfl (by decide +kernel) dX3_fits_107 ?_
              refine s_toe (b := nI q.2.2.2.1) ((ih_sI_j (by decide)).trans ((ih_sI_j (by decide)).trans ((congrFun (ih_sI_row (by decide)) _).trans hL.2.2.2.1))) ?_
              refine s_iconst (v := nI 1) C dX3_fits_110 (by decide) ?_
              refine s_iaddN C dX3_fits_111 ?_
              refine s_putI (ty := .int) C 3 4 tyX3 tyX3_ok nmX3 (by decide) rfl (by decide) rfl (fun _ h => List.mem_cons_of_mem _ (List.mem_append_left _ (List.mem_append_right _ h))) (by decide) rfl (by decide +kernel) rfl (by decide +kernel) rfl rfl dX3_fits_112 ?_
              refine s_iconst (v := nI 1) C dX3_fits_115 (by decide) ?_
              exact s_zreturn C hA dX3_fits_116 (by decide) (Or.inl ⟨⟨h26.1, h26.2, by rw [ih_n_nI han]; exact hm, by rw [ih_n_nI han], by rw [ih_n_nI han]⟩, rfl, ih_RX_r hX rfl (fun k h1 h2 => (ih_sI_row h1).trans ((ih_sI_row h1).trans ((ih_sI_row h1).trans (ih_sI_row h2)))), by rw [ih_n_nI han]; exact ih_LR_u hL (by omega)⟩)
          · refine s_iconst (v := nI 0) C dX3_fits_72 (by decide) ?_
            exact s_zreturn C hA dX3_fits_73 (by decide) (Or.inr ⟨fun z => by have z3 := z.2.2.1; have z4 := z.2.2.2.2; rw [ih_n_nI han] at z3 z4; rw [if_pos z3] at hrc; exact h69 (hrc.trans z4), rfl, rfl⟩)

set_option maxHeartbeats 4000000 in
set_option maxRecDepth 100000 in
theorem c_X3_read (l : Launch) (w : ih_Wd) (S : ih_Sg) (T : ih_TT) (hX : ih_RX S T) (hI : ih_Inv T) (sn ik nn : Nat) (hsn : sn < 8) (hnn : nn ≤ 20) (hik : ik + 3 * nn ≤ 60) : ih_Cv l yX3_read wsX3_read 2 w ih_shX [.ref (w.2.2 58), .ref (w.2.2 (3 + 2 * sn)), .int (nI ik), .int (nI nn)] S (fun S' => ih_RX S' T ∧ ih_LR S'.1 (ih_lg T (60 * sn + ik) (nn))) := by
  refine ih_bodyv (ret := none) rfl rfl (Nat.le_of_ble_eq_true rfl) ?_
  intro x A hA C
  have C : ih_Ok x w A cX3_read 6 RX3 wsX3_read (ih_rm 2) (none) := C
  show ih_Mw x w ih_shX A (ih_Qv x w ih_shX A _) 6 0 0 0 [(0, .ref (w.2.2 58)), (1, .ref (w.2.2 (3 + 2 * sn))), (2, .int (nI ik)), (3, .int (nI nn))] [] S
  obtain ⟨Q, hQ⟩ : ∃ Q, Q = ih_Qv x w ih_shX A (fun S' => ih_RX S' T ∧ ih_LR S'.1 (ih_lg T (60 * sn + ik) (nn))) := ⟨_, rfl⟩
  rw [show ih_Qv x w ih_shX A _ = Q from hQ.symm]
  have hp := hX.1
  refine s_aload_n C 0 dX3_read_0 rfl ?_
  refine s_getR C 3 1 (hp _ _ _ rfl) (by decide) rfl (by decide) rfl (fun _ h => List.mem_cons_of_mem _ (List.mem_append_left _ (List.mem_append_right _ h))) (by decide) rfl (by decide +kernel) dX3_read_1 ?_
  refine s_iconst (v := nI 0) C dX3_read_4 (by decide) ?_
  refine s_callSv 2 C (c_fillI _ w _ 59 9 (by decide) rfl rfl (by decide) _) gX3_read_J7_fill_53178 rfl (by decide +kernel) (by decide) (by decide) rfl rfl (Nat.le_of_ble_eq_true rfl) dX3_read_5 ?_
  rintro S6 hS6
  refine s_aload_n C 0 dX3_read_8 rfl ?_
  refine s_ldc (v := (-1000000)) C (by decide +kernel) dX3_read_9 ?_
  refine s_putI (ty := .int) C 3 2 tyX3 tyX3_ok nmX3 (by decide) rfl (by decide) rfl (fun _ h => List.mem_cons_of_mem _ (List.mem_append_left _ (List.mem_append_right _ h))) (by decide) rfl (by decide +kernel) rfl (by decide +kernel) rfl rfl dX3_read_11 ?_
  refine s_aload_n C 0 dX3_read_14 rfl ?_
  refine s_iconst (v := nI 0) C dX3_read_15 (by decide) ?_
  refine s_putI (ty := .int) C 3 3 tyX3 tyX3_ok nmX3 (by decide) rfl (by decide) rfl (fun _ h => List.mem_cons_of_mem _ (List.mem_append_left _ (List.mem_append_right _ h))) (by decide) rfl (by decide +kernel) rfl (by decide +kernel) rfl rfl dX3_read_16 ?_
  refine s_aload_n C 0 dX3_read_19 rfl ?_
  refine s_iconst (v := nI 0) C dX3_read_20 (by decide) ?_
  refine s_putI (ty := .int) C 3 4 tyX3 tyX3_ok nmX3 (by decide) rfl (by decide) rfl (fun _ h => List.mem_cons_of_mem _ (List.mem_append_left _ (List.mem_append_right _ h))) (by decide) rfl (by decide +kernel) rfl (by decide +kernel) rfl rfl dX3_read_21 ?_
  refine s_aload_n C 0 dX3_read_24 rfl ?_
  refine s_iconst (v := nI 0) C dX3_read_25 (by decide) ?_
  refine s_putI (ty := .int) C 3 5 tyX3 tyX3_ok nmX3 (by decide) rfl (by decide) rfl (fun _ h => List.mem_cons_of_mem _ (List.mem_append_left _ (List.mem_append_right _ h))) (by decide) rfl (by decide +kernel) rfl (by decide +kernel) rfl rfl dX3_read_26 ?_
  refine s_iconst (v := nI 0) C dX3_read_29 (by decide) ?_
  refine s_istore (lv' := [(4, .int (nI 0)), (0, .ref (w.2.2 58)), (1, .ref (w.2.2 (3 + 2 * sn))), (2, .int (nI ik)), (3, .int (nI nn))]) C dX3_read_30 (by decide) rfl ?_
  have hx_32 : ∀ S, (ih_RX S T ∧ ih_LR S.1 (ih_lg T (60 * sn + ik) (nn))) → ih_Mw x w ih_shX A Q 6 0 0 90 [(0, .ref (w.2.2 58))] [] S := by
    intro S ⟨hX, hL⟩
    rw [hQ]
    exact s_vreturn C hA dX3_read_90 ⟨hX, hL⟩
  have loop_32 : ∀ (fu k : Nat), k + fu = nn → ∀ S, (ih_RX S T ∧ ih_LR S.1 (ih_lg T (60 * sn + ik) (k))) → ih_Mw x w ih_shX A Q 6 0 0 32 [(0, .ref (w.2.2 58)), (1, .ref (w.2.2 (3 + 2 * sn))), (2, .int (nI ik)), (3, .int (nI nn)), (4, .int (nI k))] [] S := by
    intro fu
    induction fu with
    | zero =>
      intro k hke S ⟨hX, hL⟩
      have hk0 : k = nn := by omega
      refine s_iload C 4 dX3_read_32 rfl ?_
      refine s_iload_n C 3 dX3_read_34 rfl ?_
      refine s_icmp_geN 90 C dX3_read_35 (by decide) (by omega) (by omega) (fun h35 => ?_) (fun h35 => ?_)
      · refine s_perm [0] rfl ?_
        subst hk0
        exact hx_32 _ ⟨hX, hL⟩
      · exfalso; omega
    | succ fu ih_32 =>
      intro k hke S ⟨hX, hL⟩
      have hkl : k < nn := by omega
      have hp := hX.1
      refine s_iload C 4 dX3_read_32 rfl ?_
      refine s_iload_n C 3 dX3_read_34 rfl ?_
      refine s_icmp_geN 90 C dX3_read_35 (by decide) (by omega) (by omega) (fun h35 => ?_) (fun h35 => ?_)
      · exfalso; omega
      · refine s_aload_n C 0 dX3_read_38 rfl ?_
        refine s_getI C 3 2 (by decide) rfl (by decide) rfl (fun _ h => List.mem_cons_of_mem _ (List.mem_append_left _ (List.mem_append_right _ h))) (by decide) rfl (by decide +kernel) dX3_read_39 ?_
        refine s_toe (b := (ih_lg T (60 * sn + ik) (k)).1) hL.1 ?_
        refine s_ldc (v := (-1000000)) C (by decide +kernel) dX3_read_42 ?_
        refine s_icmp_ne C 90 dX3_read_44 (by decide) (fun h44 => ?_) (fun h44 => ?_)
        · refine s_perm [0] rfl ?_
          exact hx_32 _ ⟨hX, by rw [show nn = k + (nn - k) by omega, ih_lg_fr h44]; exact hL⟩
        · refine s_iload_n C 2 dX3_read_47 rfl ?_
          refine s_iload C 4 dX3_read_48 rfl ?_
          refine s_iconst (v := nI 3) C dX3_read_50 (by decide) ?_
          refine s_imulN C dX3_read_51 ?_
          refine s_iaddN C dX3_read_52 ?_
          refine s_istore (lv' := [(5, .int (nI (ik + (k * 3)))), (0, .ref (w.2.2 58)), (1, .ref (w.2.2 (3 + 2 * sn))), (2, .int (nI ik)), (3, .int (nI nn)), (4, .int (nI k))]) C dX3_read_53 (by decide) rfl ?_
          refine s_aload_n C 1 dX3_read_55 rfl ?_
          refine s_aload_n C 2 dX3_read_56 rfl ?_
          refine s_iload C 0 dX3_read_57 rfl ?_
          refine s_iaload C 60 (ik + (k * 3)) rfl (ih_lX_it hsn) (by omega) (by decide) (by show 3 + 2 * sn < 62; omega) (ih_kX_it hsn) dX3_read_59 ?_
          refine s_toe (b := T 3 (60 * sn + ik + 3 * k)) (((hX.2.2.2.2.1 sn hsn).2.2.2 _ (by omega)).trans (congrArg (T 3) (by omega))) ?_
          refine s_aload_n C 2 dX3_read_60 rfl ?_
          refine s_iload C 0 dX3_read_61 rfl ?_
          refine s_iconst (v := nI 1) C dX3_read_63 (by decide) ?_
          refine s_iaddN C dX3_read_64 ?_
          refine s_iaload C 60 ((ik + (k * 3)) + 1) rfl (ih_lX_it hsn) (by omega) (by decide) (by show 3 + 2 * sn < 62; omega) (ih_kX_it hsn) dX3_read_65 ?_
          refine s_toe (b := T 3 (60 * sn + ik + 3 * k + 1)) (((hX.2.2.2.2.1 sn hsn).2.2.2 _ (by omega)).trans (congrArg (T 3) (by omega))) ?_
          refine s_aload_n C 2 dX3_read_66 rfl ?_
          refine s_iload C 0 dX3_read_67 rfl ?_
          refine s_iconst (v := nI 2) C dX3_read_69 (by decide) ?_
          refine s_iaddN C dX3_read_70 ?_
          refine s_iaload C 60 ((ik + (k * 3)) + 2) rfl (ih_lX_it hsn) (by omega) (by decide) (by show 3 + 2 * sn < 62; omega) (ih_kX_it hsn) dX3_read_71 ?_
          refine s_toe (b := T 3 (60 * sn + ik + 3 * k + 2)) (((hX.2.2.2.2.1 sn hsn).2.2.2 _ (by omega)).trans (congrArg (T 3) (by omega))) ?_
          refine s_callVi 3 C (c_X3_fits _ w _ T hX (ih_lg T (60 * sn + ik) (k)) hL (ih_lg_le k).1 (by have := (ih_lg_le (T := T) (b := 60 * sn + ik) k).2.1; omega) _ _ _) gX3_read_X3_fits rfl (by decide +kernel) (by decide) (by decide) (by decide) rfl (by decide) rfl rfl rfl (Nat.le_of_ble_eq_true rfl) dX3_read_72 ?_
          rintro rz S8 hrz
          rcases hrz with ⟨hP, rfl, hX8, hL8⟩ | ⟨hP, rfl, hSS⟩
          · refine s_if_neN 84 C dX3_read_75 (by decide) (by omega) (fun h75 => ?_) (fun h75 => ?_)
            · refine s_iinc (u := nI (k + 1)) (lv' := [(4, .int (nI (k + 1))), (5, .int (nI (ik + (k * 3)))), (0, .ref (w.2.2 58)), (1, .ref (w.2.2 (3 + 2 * sn))), (2, .int (nI ik)), (3, .int (nI nn))]) C 5 dX3_read_84 rfl (ih_incN (by decide)) (by decide) rfl ?_
              refine s_goto C 32 dX3_read_87 (by decide) ?_
              refine s_perm [2, 3, 4, 5, 0] rfl ?_
              exact ih_32 (k + 1) (by omega) _ ⟨hX8, by rw [ih_lg_s h44 hP]; rw [ih_q1] at hL8; rw [h44] at hL8; exact hL8⟩
            · exact absurd h75 (by decide)
          · obtain rfl := hSS.symm
            refine s_if_neN 84 C dX3_read_75 (by decide) (by omega) (fun h75 => ?_) (fun h75 => ?_)
            · exact absurd h75 (by decide)
            · refine s_aload_n C 1 dX3_read_78 rfl ?_
              refine s_iload C 5 dX3_read_79 rfl ?_
              refine s_putI (ty := .int) C 3 2 tyX3 tyX3_ok nmX3 (by decide) rfl (by decide) rfl (fun _ h => List.mem_cons_of_mem _ (List.mem_append_left _ (List.mem_append_right _ h))) (by decide) rfl (by decide +kernel) rfl (by decide +kernel) rfl rfl dX3_read_81 ?_
              refine s_iinc (u := nI (k + 1)) (lv' := [(4, .int (nI (k + 1))), (5, .int (nI (ik + (k * 3)))), (0, .ref (w.2.2 58)), (1, .ref (w.2.2 (3 + 2 * sn))), (2, .int (nI ik)), (3, .int (nI nn))]) C 5 dX3_read_84 rfl (ih_incN (by decide)) (by decide) rfl ?_
              refine s_goto C 32 dX3_read_87 (by decide) ?_
              refine s_perm [2, 3, 4, 5, 0] rfl ?_
              exact ih_32 (k + 1) (by omega) _ ⟨ih_RX_r hX rfl (fun a h1 h2 => ih_sI_row h1), by rw [ih_lg_b h44 hP]; exact ih_LR_b hL⟩
  refine s_perm [1, 2, 3, 4, 0] rfl ?_
  exact loop_32 nn 0 (by omega) _ (by
    rw [hS6]
    refine ⟨ih_RX_r hX rfl (fun k h1 h2 => ?_), ?_, ?_, ?_, ?_, fun a ha => ?_⟩
    · rw [ih_sI_row h1, ih_sI_row h1, ih_sI_row h1, ih_sI_row h1]; funext j; exact if_neg (fun q => h2 q.1)
    · rw [ih_sI_j (by decide), ih_sI_j (by decide), ih_sI_j (by decide), ih_sI_s]; rfl
    · rw [ih_sI_s]; rfl
    · rw [ih_sI_j (by decide), ih_sI_j (by decide), ih_sI_s]; rfl
    · rw [ih_sI_j (by decide), ih_sI_s]; rfl
    · rw [ih_sI_row (by decide), ih_sI_row (by decide), ih_sI_row (by decide), ih_sI_row (by decide)]; exact if_pos ⟨rfl, ha⟩)

set_option maxHeartbeats 4000000 in
set_option maxRecDepth 100000 in
theorem c_X3_howManyStrikes (l : Launch) (w : ih_Wd) (Sb : ih_Sg) (hp : ih_PX Sb) (q : Int32 × Nat × Nat × Nat × (Nat → Nat)) (hL : ih_LR Sb.1 q) : ih_Ci l yX3_howManyStrikes wsX3_howManyStrikes 0 w ih_shX [.ref (w.2.2 58)] Sb (fun r S' => r = nI (ih_sum q.2.2.2.2 6) ∧ S' = Sb) := by
  refine ih_bodyi (ret := some .int) rfl rfl (Nat.le_of_ble_eq_true rfl) ?_
  intro x A hA C
  have C : ih_Ok x w A cX3_howManyStrikes 3 RX3 wsX3_howManyStrikes (ih_rm 0) (some .int) := C
  show ih_Mw x w ih_shX A (ih_Qi x w ih_shX A _) 3 0 0 0 [(0, .ref (w.2.2 58))] [] Sb
  obtain ⟨Q, hQ⟩ : ∃ Q, Q = ih_Qi x w ih_shX A (fun r S' => r = nI (ih_sum q.2.2.2.2 6) ∧ S' = Sb) := ⟨_, rfl⟩
  rw [show ih_Qi x w ih_shX A _ = Q from hQ.symm]
  refine s_iconst (v := nI 0) C dX3_howManyStrikes_0 (by decide) ?_
  refine s_istore_n (lv' := [(1, .int (nI 0)), (0, .ref (w.2.2 58))]) C dX3_howManyStrikes_1 rfl (by decide) rfl ?_
  refine s_iconst (v := nI 0) C dX3_howManyStrikes_2 (by decide) ?_
  refine s_istore_n (lv' := [(2, .int (nI 0)), (1, .int (nI 0)), (0, .ref (w.2.2 58))]) C dX3_howManyStrikes_3 rfl (by decide) rfl ?_
  have hx_4 : ∀ S, S = Sb → ih_Mw x w ih_shX A Q 3 0 0 24 [(0, .ref (w.2.2 58)), (1, .int (nI (ih_sum q.2.2.2.2 (6))))] [] S := by
    intro S hSS
    obtain rfl := hSS.symm
    refine s_iload_n C 1 dX3_howManyStrikes_24 rfl ?_
    rw [hQ]
    exact s_ireturn C hA dX3_howManyStrikes_25 ⟨rfl, rfl⟩
  have loop_4 : ∀ (fu a : Nat), a + fu = 6 → ∀ S, S = Sb → ih_Mw x w ih_shX A Q 3 0 0 4 [(0, .ref (w.2.2 58)), (1, .int (nI (ih_sum q.2.2.2.2 (a)))), (2, .int (nI a))] [] S := by
    intro fu
    induction fu with
    | zero =>
      intro a hae S hSS
      have ha0 : a = 6 := by omega
      refine s_iload_n C 2 dX3_howManyStrikes_4 rfl ?_
      refine s_iconst (v := nI 5) C dX3_howManyStrikes_5 (by decide) ?_
      refine s_icmp_gtN 24 C dX3_howManyStrikes_6 (by decide) (by omega) (by omega) (fun h6 => ?_) (fun h6 => ?_)
      · refine s_perm [0, 1] rfl ?_
        subst ha0
        exact hx_4 _ hSS
      · exfalso; omega
    | succ fu ih_4 =>
      intro a hae S hSS
      have hal : a < 6 := by omega
      obtain rfl := hSS.symm
      refine s_iload_n C 2 dX3_howManyStrikes_4 rfl ?_
      refine s_iconst (v := nI 5) C dX3_howManyStrikes_5 (by decide) ?_
      refine s_icmp_gtN 24 C dX3_howManyStrikes_6 (by decide) (by omega) (by omega) (fun h6 => ?_) (fun h6 => ?_)
      · exfalso; omega
      · refine s_iload_n C 1 dX3_howManyStrikes_9 rfl ?_
        refine s_aload_n C 0 dX3_howManyStrikes_10 rfl ?_
        refine s_getR C 3 1 (hp _ _ _ rfl) (by decide) rfl (by decide) rfl (fun _ h => List.mem_cons_of_mem _ (List.mem_append_right _ h)) (by decide) rfl (by decide +kernel) dX3_howManyStrikes_11 ?_
        refine s_iload_n C 2 dX3_howManyStrikes_14 rfl ?_
        refine s_iaload C 9 (a) rfl rfl (by omega) (by decide) (by decide) rfl dX3_howManyStrikes_15 ?_
        refine s_toe (hL.2.2.2.2 a (by omega)) ?_
        refine s_iaddN C dX3_howManyStrikes_16 ?_
        refine s_toe (b := nI (ih_sum q.2.2.2.2 (a + 1))) rfl ?_
        refine s_istore_n (lv' := [(1, .int (nI (ih_sum q.2.2.2.2 (a + 1)))), (0, .ref (w.2.2 58)), (2, .int (nI a))]) C dX3_howManyStrikes_17 rfl (by decide) rfl ?_
        refine s_iinc (u := nI (a + 1)) (lv' := [(2, .int (nI (a + 1))), (1, .int (nI (ih_sum q.2.2.2.2 (a + 1)))), (0, .ref (w.2.2 58))]) C 2 dX3_howManyStrikes_18 rfl (ih_incN (by decide)) (by decide) rfl ?_
        refine s_goto C 4 dX3_howManyStrikes_21 (by decide) ?_
        refine s_perm [2, 1, 0] rfl ?_
        exact ih_4 (a + 1) (by omega) _ rfl
  refine s_perm [2, 1, 0] rfl ?_
  exact loop_4 6 0 (by omega) _ rfl

set_option maxHeartbeats 4000000 in
set_option maxRecDepth 100000 in
theorem c_X3_told_0 (l : Launch) (w : ih_Wd) (S : ih_Sg) (hp : ih_PX S) (q : Int32 × Nat × Nat × Nat × (Nat → Nat)) (hL : ih_LR S.1 q) : ih_Ci l yX3_told wsX3_told 1 w ih_shX [.ref (w.2.2 58), .int (nI 0)] S (fun r S' => r = q.1 ∧ S' = S) := by
  refine ih_bodyi (ret := some .int) rfl rfl (Nat.le_of_ble_eq_true rfl) ?_
  intro x A hA C
  have C : ih_Ok x w A cX3_told 2 RX3 wsX3_told (ih_rm 1) (some .int) := C
  show ih_Mw x w ih_shX A (ih_Qi x w ih_shX A _) 2 0 0 0 [(0, .ref (w.2.2 58)), (1, .int (nI 0))] [] S
  refine s_iload_n C 1 dX3_told_0 rfl ?_
  refine s_tableIn (off := 31) C 32 dX3_told_1 (by decide) (by decide) (by decide) (by decide) ?_
  refine s_aload_n C 0 dX3_told_32 rfl ?_
  refine s_getI C 3 2 (by decide) rfl (by decide) rfl (fun _ h => List.mem_cons_of_mem _ (List.mem_append_right _ h)) (by decide) rfl (by decide +kernel) dX3_told_33 ?_
  exact s_ireturn C hA dX3_told_36 ⟨hL.1, rfl⟩

set_option maxHeartbeats 4000000 in
set_option maxRecDepth 100000 in
theorem c_X3_told_1 (l : Launch) (w : ih_Wd) (S : ih_Sg) (hp : ih_PX S) (q : Int32 × Nat × Nat × Nat × (Nat → Nat)) (hL : ih_LR S.1 q) : ih_Ci l yX3_told wsX3_told 1 w ih_shX [.ref (w.2.2 58), .int (nI 1)] S (fun r S' => r = nI q.2.2.1 ∧ S' = S) := by
  refine ih_bodyi (ret := some .int) rfl rfl (Nat.le_of_ble_eq_true rfl) ?_
  intro x A hA C
  have C : ih_Ok x w A cX3_told 2 RX3 wsX3_told (ih_rm 1) (some .int) := C
  show ih_Mw x w ih_shX A (ih_Qi x w ih_shX A _) 2 0 0 0 [(0, .ref (w.2.2 58)), (1, .int (nI 1))] [] S
  refine s_iload_n C 1 dX3_told_0 rfl ?_
  refine s_tableIn (off := 36) C 37 dX3_told_1 (by decide) (by decide) (by decide) (by decide) ?_
  refine s_aload_n C 0 dX3_told_37 rfl ?_
  refine s_getI C 3 3 (by decide) rfl (by decide) rfl (fun _ h => List.mem_cons_of_mem _ (List.mem_append_right _ h)) (by decide) rfl (by decide +kernel) dX3_told_38 ?_
  exact s_ireturn C hA dX3_told_41 ⟨hL.2.2.1, rfl⟩

set_option maxHeartbeats 4000000 in
set_option maxRecDepth 100000 in
theorem c_X3_told_2 (l : Launch) (w : ih_Wd) (S : ih_Sg) (hp : ih_PX S) (q : Int32 × Nat × Nat × Nat × (Nat → Nat)) (hL : ih_LR S.1 q) : ih_Ci l yX3_told wsX3_told 1 w ih_shX [.ref (w.2.2 58), .int (nI 2)] S (fun r S' => r = nI q.2.2.2.1 ∧ S' = S) := by
  refine ih_bodyi (ret := some .int) rfl rfl (Nat.le_of_ble_eq_true rfl) ?_
  intro x A hA C
  have C : ih_Ok x w A cX3_told 2 RX3 wsX3_told (ih_rm 1) (some .int) := C
  show ih_Mw x w ih_shX A (ih_Qi x w ih_shX A _) 2 0 0 0 [(0, .ref (w.2.2 58)), (1, .int (nI 2))] [] S
  refine s_iload_n C 1 dX3_told_0 rfl ?_
  refine s_tableIn (off := 41) C 42 dX3_told_1 (by decide) (by decide) (by decide) (by decide) ?_
  refine s_aload_n C 0 dX3_told_42 rfl ?_
  refine s_getI C 3 4 (by decide) rfl (by decide) rfl (fun _ h => List.mem_cons_of_mem _ (List.mem_append_right _ h)) (by decide) rfl (by decide +kernel) dX3_told_43 ?_
  exact s_ireturn C hA dX3_told_46 ⟨hL.2.2.2.1, rfl⟩

set_option maxHeartbeats 4000000 in
set_option maxRecDepth 100000 in
theorem c_X3_told_3 (l : Launch) (w : ih_Wd) (S : ih_Sg) (hp : ih_PX S) (q : Int32 × Nat × Nat × Nat × (Nat → Nat)) (hL : ih_LR S.1 q) : ih_Ci l yX3_told wsX3_told 1 w ih_shX [.ref (w.2.2 58), .int (nI 3)] S (fun r S' => r = nI q.2.1 ∧ S' = S) := by
  refine ih_bodyi (ret := some .int) rfl rfl (Nat.le_of_ble_eq_true rfl) ?_
  intro x A hA C
  have C : ih_Ok x w A cX3_told 2 RX3 wsX3_told (ih_rm 1) (some .int) := C
  show ih_Mw x w ih_shX A (ih_Qi x w ih_shX A _) 2 0 0 0 [(0, .ref (w.2.2 58)), (1, .int (nI 3))] [] S
  refine s_iload_n C 1 dX3_told_0 rfl ?_
  refine s_tableIn (off := 46) C 47 dX3_told_1 (by decide) (by decide) (by decide) (by decide) ?_
  refine s_aload_n C 0 dX3_told_47 rfl ?_
  refine s_getI C 3 5 (by decide) rfl (by decide) rfl (fun _ h => List.mem_cons_of_mem _ (List.mem_append_right _ h)) (by decide) rfl (by decide +kernel) dX3_told_48 ?_
  exact s_ireturn C hA dX3_told_51 ⟨hL.2.1, rfl⟩

set_option maxHeartbeats 4000000 in
set_option maxRecDepth 100000 in
theorem c_X3_told_o (l : Launch) (w : ih_Wd) (S : ih_Sg) (hp : ih_PX S) (q : Int32 × Nat × Nat × Nat × (Nat → Nat)) (hL : ih_LR S.1 q) (wn : Nat) (hw : 10 ≤ wn ∧ wn ≤ 18) : ih_Ci l yX3_told wsX3_told 1 w ih_shX [.ref (w.2.2 58), .int (nI wn)] S (fun r S' => r = nI (q.2.2.2.2 (wn - 10)) ∧ S' = S) := by
  refine ih_bodyi (ret := some .int) rfl rfl (Nat.le_of_ble_eq_true rfl) ?_
  intro x A hA C
  have C : ih_Ok x w A cX3_told 2 RX3 wsX3_told (ih_rm 1) (some .int) := C
  show ih_Mw x w ih_shX A (ih_Qi x w ih_shX A _) 2 0 0 0 [(0, .ref (w.2.2 58)), (1, .int (nI wn))] [] S
  refine s_iload_n C 1 dX3_told_0 rfl ?_
  refine s_tableOut C 52 dX3_told_1 (Or.inr (by rw [ih_t (by omega)]; omega)) (by decide) ?_
  refine s_iload_n C 1 dX3_told_52 rfl ?_
  refine s_bipush (v := nI 10) C dX3_told_53 (by decide) ?_
  refine s_bipush (v := nI 18) C dX3_told_55 (by decide) ?_
  refine s_callSNi 3 C (c_X7_within _ w _ _ _ _ _) gX3_told_X7_within_n43 C.2.1.2.2.2.2.1 (by decide +kernel) (by decide +kernel) rfl (by decide +kernel) (by decide) (by decide) rfl rfl (Nat.le_of_ble_eq_true rfl) dX3_told_57 ?_
  rintro rw S2 ⟨hrw, hSS⟩
  obtain rfl := hSS.symm
  rw [ih_t (n := 10) (by decide), ih_t (n := 18) (by decide)] at hrw
  refine s_if_eq C 75 dX3_told_60 (by decide) (fun h60 => ?_) (fun h60 => ?_)
  · exact absurd (by rw [ih_t (by omega)]; omega) (ih_b0 hrw h60)
  · replace h60 := ih_b1 hrw h60
    refine s_aload_n C 0 dX3_told_63 rfl ?_
    refine s_getR C 3 1 (hp _ _ _ rfl) (by decide) rfl (by decide) rfl (fun _ h => List.mem_cons_of_mem _ (List.mem_append_right _ h)) (by decide) rfl (by decide +kernel) dX3_told_64 ?_
    refine s_iload_n C 1 dX3_told_67 rfl ?_
    refine s_bipush (v := nI 10) C dX3_told_68 (by decide) ?_
    refine s_isubN C dX3_told_70 (by omega) ?_
    refine s_iaload C 9 (wn - 10) rfl rfl (by omega) (by decide) (by decide) rfl dX3_told_71 ?_
    refine s_toe (hL.2.2.2.2 (wn - 10) (by omega)) ?_
    refine s_goto C 77 dX3_told_72 (by decide) ?_
    exact s_ireturn C hA dX3_told_77 ⟨rfl, rfl⟩

theorem c_X3_told (l : Launch) (w : ih_Wd) (S : ih_Sg) (hp : ih_PX S) (q : Int32 × Nat × Nat × Nat × (Nat → Nat)) (hL : ih_LR S.1 q) (wn : Nat) (hw : wn ≤ 3 ∨ (10 ≤ wn ∧ wn ≤ 18)) : ih_Ci l yX3_told wsX3_told 1 w ih_shX [.ref (w.2.2 58), .int (nI wn)] S (fun r S' => r = ih_lv q wn ∧ S' = S) := by
  by_cases h10 : 10 ≤ wn
  · unfold ih_lv
    rw [if_neg (by omega), if_neg (by omega), if_neg (by omega), if_neg (by omega)]
    exact c_X3_told_o l w S hp q hL wn (by omega)
  · rcases ih_a4 (show wn < 4 by omega) with rfl | rfl | rfl | rfl
    · exact c_X3_told_0 l w S hp q hL
    · exact c_X3_told_1 l w S hp q hL
    · exact c_X3_told_2 l w S hp q hL
    · exact c_X3_told_3 l w S hp q hL
set_option maxHeartbeats 4000000 in
set_option maxRecDepth 100000 in
theorem c_X7_findingOfLog (l : Launch) (w : ih_Wd) (S : ih_Sg) (T : ih_TT) (hX : ih_RX S T) (hI : ih_Inv T) (sn : Nat) (hsnb : sn < 8) (i : Int32) (nn : Nat) (hnn : nn ≤ 20) : ih_Ci l yX7_findingOfLog wsX7_findingOfLog 1 w ih_shX [.ref (w.2.2 0), .int (nI sn), .int i, .int (nI nn)] S (fun r S' => r = nI (if (T 1 sn).toInt < 0 then 1 else if 0 ≤ i.toInt ∧ i.toInt + 3 * nn ≤ ih_mn T sn then 0 else 2) ∧ S' = S) := by
  refine ih_bodyi (ret := some .int) rfl rfl (Nat.le_of_ble_eq_true rfl) ?_
  intro x A hA C
  have C : ih_Ok x w A cX7_findingOfLog 5 RX7 wsX7_findingOfLog (ih_rm 1) (some .int) := C
  show ih_Mw x w ih_shX A (ih_Qi x w ih_shX A _) 5 0 0 0 [(0, .ref (w.2.2 0)), (1, .int (nI sn)), (2, .int i), (3, .int (nI nn))] [] S
  have hp := hX.1
  refine s_aload_n C 0 dX7_findingOfLog_0 rfl ?_
  refine s_getR C 7 0 (hp _ _ _ rfl) (by decide) rfl (by decide) rfl (fun _ h => List.mem_cons_of_mem _ (List.mem_append_left _ (List.mem_append_right _ h))) (by decide) rfl (by decide +kernel) dX7_findingOfLog_1 ?_
  refine s_iload_n C 1 dX7_findingOfLog_4 rfl ?_
  refine s_aaload C 8 (sn) (hp _ _ _ (ih_pX_sh hsnb)) rfl rfl (by omega) (by decide) (by decide) rfl (by decide) dX7_findingOfLog_5 ?_
  refine s_astore (lv' := [(4, .ref (w.2.2 (2 + 2 * sn))), (0, .ref (w.2.2 0)), (1, .int (nI sn)), (2, .int i), (3, .int (nI nn))]) C dX7_findingOfLog_6 (by decide) rfl ?_
  refine s_aload C 0 dX7_findingOfLog_8 rfl ?_
  refine s_getI C 5 1 (by show 2 + 2 * sn < 62; omega) (ih_kX_sh hsnb) (by decide) rfl (fun _ h => List.mem_cons_of_mem _ (List.mem_append_right _ h)) (by decide) rfl (by decide +kernel) dX7_findingOfLog_10 ?_
  refine s_topi (fun rmi ermi => ?_)
  replace ermi := ermi.trans (hX.2.2.2.2.1 sn hsnb).1
  refine s_if_eq C 18 dX7_findingOfLog_13 (by decide) (fun h13 => ?_) (fun h13 => ?_)
  · replace h13 := ih_b0 ermi h13
    refine s_aload C 0 dX7_findingOfLog_18 rfl ?_
    refine s_iload_n C 3 dX7_findingOfLog_20 rfl ?_
    refine s_iload_n C 4 dX7_findingOfLog_21 rfl ?_
    refine s_iconst (v := nI 3) C dX7_findingOfLog_22 (by decide) ?_
    refine s_imulN C dX7_findingOfLog_23 ?_
    refine s_callVi 2 C (c_X5_holds _ w _ sn (ih_mn T sn) hsnb (hI.1 sn hsnb).2.2 ((hX.2.2.2.2.1 sn hsnb).2.2.1.trans (hI.1 sn hsnb).2.1) _ _) gX7_findingOfLog_X5_holds rfl (by decide +kernel) (by decide) (by decide) (by show 2 + 2 * sn < 62; omega) (ih_kX_sh hsnb) (by decide) rfl rfl rfl (Nat.le_of_ble_eq_true rfl) dX7_findingOfLog_24 ?_
    rintro rh S2 ⟨hrh, hSS⟩
    obtain rfl := hSS.symm
    rw [ih_t (n := nn * 3) (by omega)] at hrh
    refine s_if_eq C 34 dX7_findingOfLog_27 (by decide) (fun h27 => ?_) (fun h27 => ?_)
    · replace h27 := ih_b0 hrh h27
      refine s_iconst (v := nI 2) C dX7_findingOfLog_34 (by decide) ?_
      exact s_ireturn C hA dX7_findingOfLog_35 ⟨by rw [if_neg (by omega), if_neg (by omega)], rfl⟩
    · replace h27 := ih_b1 hrh h27
      refine s_iconst (v := nI 0) C dX7_findingOfLog_30 (by decide) ?_
      refine s_goto C 35 dX7_findingOfLog_31 (by decide) ?_
      exact s_ireturn C hA dX7_findingOfLog_35 ⟨by rw [if_neg (by omega), if_pos (by omega)], rfl⟩
  · replace h13 := ih_b1 ermi h13
    refine s_iconst (v := nI 1) C dX7_findingOfLog_16 (by decide) ?_
    exact s_ireturn C hA dX7_findingOfLog_17 ⟨by rw [if_pos (by omega)], rfl⟩

set_option maxHeartbeats 4000000 in
set_option maxRecDepth 100000 in
theorem c_X7_log (l : Launch) (w : ih_Wd) (S : ih_Sg) (T : ih_TT) (hX : ih_RX S T) (hI : ih_Inv T) (s i n w_ : Int32) : ih_Ci l yX7_log wsX7_log 3 w ih_shX [.ref (w.2.2 0), .int s, .int i, .int n, .int w_] S (fun r S' => r = (sp_log T s i n w_).1 ∧ ih_RX S' (sp_log T s i n w_).2) := by
  refine ih_bodyi (ret := some .int) rfl rfl (Nat.le_of_ble_eq_true rfl) ?_
  intro x A hA C
  have C : ih_Ok x w A cX7_log 6 RX7 wsX7_log (ih_rm 3) (some .int) := C
  show ih_Mw x w ih_shX A (ih_Qi x w ih_shX A _) 6 0 0 0 [(0, .ref (w.2.2 0)), (1, .int s), (2, .int i), (3, .int n), (4, .int w_)] [] S
  have hct : ih_ct T ≤ 12 := hI.2.1.2.1
  have hp := hX.1
  refine s_iload_n C 1 dX7_log_0 rfl ?_
  refine s_callSi 1 C (c_X7_isSheet _ w _ _) gX7_log_X7_isSheet rfl (by decide +kernel) (by decide) (by decide) rfl rfl (Nat.le_of_ble_eq_true rfl) dX7_log_1 ?_
  rintro rs1 S2 ⟨hrs1, hSS⟩
  obtain rfl := hSS.symm
  refine s_if_eq C 39 dX7_log_4 (by decide) (fun h4 => ?_) (fun h4 => ?_)
  · replace h4 := ih_b0 hrs1 h4
    refine s_ldc (v := (-1000001)) C (by decide +kernel) dX7_log_39 ?_
    exact s_ireturn C hA dX7_log_41 (by rw [sp_log, if_neg (by omega)]; exact ⟨rfl, hX⟩)
  · replace h4 := ih_b1 hrs1 h4
    refine s_iload_n C 3 dX7_log_7 rfl ?_
    refine s_iconst (v := nI 1) C dX7_log_8 (by decide) ?_
    refine s_bipush (v := nI 20) C dX7_log_9 (by decide) ?_
    refine s_callSi 3 C (c_X7_within _ w _ _ _ _ _) gX7_log_X7_within rfl (by decide +kernel) (by decide) (by decide) rfl rfl (Nat.le_of_ble_eq_true rfl) dX7_log_11 ?_
    rintro rw11 S2 ⟨hrw11, hSS⟩
    obtain rfl := hSS.symm
    rw [ih_t (by decide), ih_t (by decide)] at hrw11
    refine s_if_eq C 39 dX7_log_14 (by decide) (fun h14 => ?_) (fun h14 => ?_)
    · replace h14 := ih_b0 hrw11 h14
      refine s_ldc (v := (-1000001)) C (by decide +kernel) dX7_log_39 ?_
      exact s_ireturn C hA dX7_log_41 (by rw [sp_log, if_neg (by omega)]; exact ⟨rfl, hX⟩)
    · replace h14 := ih_b1 hrw11 h14
      refine s_iload C 4 dX7_log_17 rfl ?_
      refine s_iconst (v := nI 0) C dX7_log_19 (by decide) ?_
      refine s_iconst (v := nI 3) C dX7_log_20 (by decide) ?_
      refine s_callSi 3 C (c_X7_within _ w _ _ _ _ _) gX7_log_X7_within rfl (by decide +kernel) (by decide) (by decide) rfl rfl (Nat.le_of_ble_eq_true rfl) dX7_log_21 ?_
      rintro rw21 S2 ⟨hrw21, hSS⟩
      obtain rfl := hSS.symm
      rw [ih_t (by decide), ih_t (by decide)] at hrw21
      refine s_if_ne C 42 dX7_log_24 (by decide) (fun h24 => ?_) (fun h24 => ?_)
      · replace h24 := ih_b1 hrw21 h24
        obtain ⟨sn, hsn, rfl, hsnt⟩ := ih_nat (a := s) h4.1
        have hsnb : sn < 8 := by omega
        obtain ⟨nn, hnn, rfl, hnnt⟩ := ih_nat (a := n) (by omega)
        have hnnb : nn < 21 := by omega
        obtain ⟨wn, hwn, rfl, hwnt⟩ := ih_nat (a := w_) (by omega)
        have hp := hX.1
        have hmn : ih_mn T sn ≤ 60 := (hI.1 sn hsnb).2.2
        refine s_aload_n C 0 dX7_log_42 rfl ?_
        refine s_iload_n C 1 dX7_log_43 rfl ?_
        refine s_iload_n C 2 dX7_log_44 rfl ?_
        refine s_iload_n C 3 dX7_log_45 rfl ?_
        refine s_callVi 3 C (c_X7_findingOfLog _ w _ T hX hI sn hsnb i nn (by omega)) gX7_log_X7_findingOfLog rfl (by decide +kernel) (by decide) (by decide) (by decide) rfl (by decide) rfl rfl rfl (Nat.le_of_ble_eq_true rfl) dX7_log_46 ?_
        rintro rf0 S2 ⟨hrf0, hSS⟩
        obtain rfl := hSS.symm
        obtain ⟨mz, hmz⟩ : ∃ mz : Nat, mz = if (T 1 sn).toInt < 0 then 1 else if 0 ≤ i.toInt ∧ i.toInt + 3 * nn ≤ ih_mn T sn then 0 else 2 := ⟨_, rfl⟩
        rw [← hmz] at hrf0
        subst hrf0
        have hmz2 : ((T 1 sn).toInt < 0 ∧ mz = 1) ∨ (¬ (T 1 sn).toInt < 0 ∧ (0 ≤ i.toInt ∧ i.toInt + 3 * nn ≤ ih_mn T sn) ∧ mz = 0) ∨ (¬ (T 1 sn).toInt < 0 ∧ ¬ (0 ≤ i.toInt ∧ i.toInt + 3 * nn ≤ ih_mn T sn) ∧ mz = 2) := by
          rw [hmz]
          by_cases q1 : (T 1 sn).toInt < 0
          · rw [if_pos q1]; exact Or.inl ⟨q1, rfl⟩
          · rw [if_neg q1]
            by_cases q2 : 0 ≤ i.toInt ∧ i.toInt + 3 * nn ≤ ih_mn T sn
            · rw [if_pos q2]; exact Or.inr (Or.inl ⟨q1, q2, rfl⟩)
            · rw [if_neg q2]; exact Or.inr (Or.inr ⟨q1, q2, rfl⟩)
        refine s_istore (lv' := [(5, .int (nI mz)), (0, .ref (w.2.2 0)), (1, .int (nI sn)), (2, .int i), (3, .int (nI nn)), (4, .int (nI wn))]) C dX7_log_49 (by decide) rfl ?_
        refine s_iload C 0 dX7_log_51 rfl ?_
        refine s_if_eqN 63 C dX7_log_53 (by decide) (by omega) (fun h53 => ?_) (fun h53 => ?_)
        · have hok1 : ¬ (T 1 sn).toInt < 0 := by omega
          have hok2 : 0 ≤ i.toInt ∧ i.toInt + 3 * nn ≤ ih_mn T sn := by omega
          obtain ⟨ik, hik, rfl, hikt⟩ := ih_nat (a := i) hok2.1
          refine s_aload_n C 1 dX7_log_63 rfl ?_
          refine s_getR C 7 6 (hp _ _ _ rfl) (by decide) rfl (by decide) rfl (fun _ h => List.mem_cons_of_mem _ (List.mem_append_left _ (List.mem_append_left _ (List.mem_append_left _ (List.mem_append_right _ h))))) (by decide) rfl (by decide +kernel) dX7_log_64 ?_
          refine s_aload_n C 1 dX7_log_67 rfl ?_
          refine s_getR C 7 0 (hp _ _ _ rfl) (by decide) rfl (by decide) rfl (fun _ h => List.mem_cons_of_mem _ (List.mem_append_left _ (List.mem_append_left _ (List.mem_append_left _ (List.mem_append_right _ h))))) (by decide) rfl (by decide +kernel) dX7_log_68 ?_
          refine s_iload_n C 2 dX7_log_71 rfl ?_
          refine s_aaload C 8 (sn) (hp _ _ _ (ih_pX_sh hsnb)) rfl rfl (by omega) (by decide) (by decide) rfl (by decide) dX7_log_72 ?_
          refine s_getR C 5 0 (hp _ _ _ (ih_pX_it hsnb)) (by show 2 + 2 * sn < 62; omega) (ih_kX_sh hsnb) (by decide) rfl (fun _ h => List.mem_cons_of_mem _ (List.mem_append_left _ (List.mem_append_left _ (List.mem_append_right _ h)))) (by decide) rfl (by decide +kernel) dX7_log_73 ?_
          refine s_iload_n C 3 dX7_log_76 rfl ?_
          refine s_iload_n C 4 dX7_log_77 rfl ?_
          refine s_callVv 3 C (c_X3_read _ w _ T hX hI sn ik nn hsnb (by omega) (by omega)) gX7_log_X3_read rfl (by decide +kernel) (by decide) (by decide) (by decide) rfl (by decide) rfl rfl rfl (Nat.le_of_ble_eq_true rfl) dX7_log_78 ?_
          rintro S7 ⟨hX7, hL⟩
          refine s_aload_n C 1 dX7_log_81 rfl ?_
          refine s_aload_n C 1 dX7_log_82 rfl ?_
          refine s_getR C 7 6 (hX7.1 _ _ _ rfl) (by decide) rfl (by decide) rfl (fun _ h => List.mem_cons_of_mem _ (List.mem_append_left _ (List.mem_append_left _ (List.mem_append_left _ (List.mem_append_right _ h))))) (by decide) rfl (by decide +kernel) dX7_log_83 ?_
          refine s_iload C 5 dX7_log_86 rfl ?_
          refine s_callVi 1 C (c_X3_told _ w _ hX7.1 (ih_lg T (60 * sn + ik) nn) hL wn (by omega)) gX7_log_X3_told rfl (by decide +kernel) (by decide) (by decide) (by decide) rfl (by decide) rfl rfl rfl (Nat.le_of_ble_eq_true rfl) dX7_log_88 ?_
          rintro rt S8 ⟨hrt, hSS⟩
          obtain rfl := hSS.symm
          refine s_callVi 1 C (c_X7_fine _ w _ _) gX7_log_X7_fine rfl (by decide +kernel) (by decide) (by decide) (by decide) rfl (by decide) rfl rfl rfl (Nat.le_of_ble_eq_true rfl) dX7_log_91 ?_
          rintro rf S3 ⟨hrf, hS3⟩
          exact s_ireturn C hA dX7_log_94 (by rw [sp_log, if_pos (show _ from by omega), ih_n_nI hsn, ih_n_nI hnn, ih_n_nI hwn, ih_n_nI hik, if_neg hok1, if_pos hok2]; exact ⟨hrf.trans hrt, by rw [hS3]; exact ih_RX_f hX7 (nI 0)⟩)
        · refine s_aload_n C 1 dX7_log_56 rfl ?_
          refine s_iload C 0 dX7_log_57 rfl ?_
          refine s_callVi 1 C (c_X7_found _ w _ _) gX7_log_X7_found rfl (by decide +kernel) (by decide) (by decide) (by decide) rfl (by decide) rfl rfl rfl (Nat.le_of_ble_eq_true rfl) dX7_log_59 ?_
          rintro rf S2 ⟨hrf, hS2⟩
          exact s_ireturn C hA dX7_log_62 (by
            rw [sp_log, if_pos (show _ from by omega), ih_n_nI hsn, ih_n_nI hnn]
            rcases hmz2 with ⟨q1, q2⟩ | ⟨q1, q2, q3⟩ | ⟨q1, q2, q3⟩
            · rw [if_pos q1]; exact ⟨by rw [hrf, q2]; rfl, by rw [hS2, q2]; exact ih_RX_f hX (nI 1)⟩
            · exact absurd q3 h53
            · rw [if_neg q1, if_neg q2]; exact ⟨by rw [hrf, q3]; rfl, by rw [hS2, q3]; exact ih_RX_f hX (nI 2)⟩)
      · replace h24 := ih_b0 hrw21 h24
        refine s_iload C 4 dX7_log_27 rfl ?_
        refine s_bipush (v := nI 10) C dX7_log_29 (by decide) ?_
        refine s_bipush (v := nI 18) C dX7_log_31 (by decide) ?_
        refine s_callSi 3 C (c_X7_within _ w _ _ _ _ _) gX7_log_X7_within rfl (by decide +kernel) (by decide) (by decide) rfl rfl (Nat.le_of_ble_eq_true rfl) dX7_log_33 ?_
        rintro rw33 S2 ⟨hrw33, hSS⟩
        obtain rfl := hSS.symm
        rw [ih_t (by decide), ih_t (by decide)] at hrw33
        refine s_if_ne C 42 dX7_log_36 (by decide) (fun h36 => ?_) (fun h36 => ?_)
        · replace h36 := ih_b1 hrw33 h36
          obtain ⟨sn, hsn, rfl, hsnt⟩ := ih_nat (a := s) h4.1
          have hsnb : sn < 8 := by omega
          obtain ⟨nn, hnn, rfl, hnnt⟩ := ih_nat (a := n) (by omega)
          have hnnb : nn < 21 := by omega
          obtain ⟨wn, hwn, rfl, hwnt⟩ := ih_nat (a := w_) (by omega)
          have hp := hX.1
          have hmn : ih_mn T sn ≤ 60 := (hI.1 sn hsnb).2.2
          refine s_aload_n C 0 dX7_log_42 rfl ?_
          refine s_iload_n C 1 dX7_log_43 rfl ?_
          refine s_iload_n C 2 dX7_log_44 rfl ?_
          refine s_iload_n C 3 dX7_log_45 rfl ?_
          refine s_callVi 3 C (c_X7_findingOfLog _ w _ T hX hI sn hsnb i nn (by omega)) gX7_log_X7_findingOfLog rfl (by decide +kernel) (by decide) (by decide) (by decide) rfl (by decide) rfl rfl rfl (Nat.le_of_ble_eq_true rfl) dX7_log_46 ?_
          rintro rf0 S2 ⟨hrf0, hSS⟩
          obtain rfl := hSS.symm
          obtain ⟨mz, hmz⟩ : ∃ mz : Nat, mz = if (T 1 sn).toInt < 0 then 1 else if 0 ≤ i.toInt ∧ i.toInt + 3 * nn ≤ ih_mn T sn then 0 else 2 := ⟨_, rfl⟩
          rw [← hmz] at hrf0
          subst hrf0
          have hmz2 : ((T 1 sn).toInt < 0 ∧ mz = 1) ∨ (¬ (T 1 sn).toInt < 0 ∧ (0 ≤ i.toInt ∧ i.toInt + 3 * nn ≤ ih_mn T sn) ∧ mz = 0) ∨ (¬ (T 1 sn).toInt < 0 ∧ ¬ (0 ≤ i.toInt ∧ i.toInt + 3 * nn ≤ ih_mn T sn) ∧ mz = 2) := by
            rw [hmz]
            by_cases q1 : (T 1 sn).toInt < 0
            · rw [if_pos q1]; exact Or.inl ⟨q1, rfl⟩
            · rw [if_neg q1]
              by_cases q2 : 0 ≤ i.toInt ∧ i.toInt + 3 * nn ≤ ih_mn T sn
              · rw [if_pos q2]; exact Or.inr (Or.inl ⟨q1, q2, rfl⟩)
              · rw [if_neg q2]; exact Or.inr (Or.inr ⟨q1, q2, rfl⟩)
          refine s_istore (lv' := [(5, .int (nI mz)), (0, .ref (w.2.2 0)), (1, .int (nI sn)), (2, .int i), (3, .int (nI nn)), (4, .int (nI wn))]) C dX7_log_49 (by decide) rfl ?_
          refine s_iload C 0 dX7_log_51 rfl ?_
          refine s_if_eqN 63 C dX7_log_53 (by decide) (by omega) (fun h53 => ?_) (fun h53 => ?_)
          · have hok1 : ¬ (T 1 sn).toInt < 0 := by omega
            have hok2 : 0 ≤ i.toInt ∧ i.toInt + 3 * nn ≤ ih_mn T sn := by omega
            obtain ⟨ik, hik, rfl, hikt⟩ := ih_nat (a := i) hok2.1
            refine s_aload_n C 1 dX7_log_63 rfl ?_
            refine s_getR C 7 6 (hp _ _ _ rfl) (by decide) rfl (by decide) rfl (fun _ h => List.mem_cons_of_mem _ (List.mem_append_left _ (List.mem_append_left _ (List.mem_append_left _ (List.mem_append_right _ h))))) (by decide) rfl (by decide +kernel) dX7_log_64 ?_
            refine s_aload_n C 1 dX7_log_67 rfl ?_
            refine s_getR C 7 0 (hp _ _ _ rfl) (by decide) rfl (by decide) rfl (fun _ h => List.mem_cons_of_mem _ (List.mem_append_left _ (List.mem_append_left _ (List.mem_append_left _ (List.mem_append_right _ h))))) (by decide) rfl (by decide +kernel) dX7_log_68 ?_
            refine s_iload_n C 2 dX7_log_71 rfl ?_
            refine s_aaload C 8 (sn) (hp _ _ _ (ih_pX_sh hsnb)) rfl rfl (by omega) (by decide) (by decide) rfl (by decide) dX7_log_72 ?_
            refine s_getR C 5 0 (hp _ _ _ (ih_pX_it hsnb)) (by show 2 + 2 * sn < 62; omega) (ih_kX_sh hsnb) (by decide) rfl (fun _ h => List.mem_cons_of_mem _ (List.mem_append_left _ (List.mem_append_left _ (List.mem_append_right _ h)))) (by decide) rfl (by decide +kernel) dX7_log_73 ?_
            refine s_iload_n C 3 dX7_log_76 rfl ?_
            refine s_iload_n C 4 dX7_log_77 rfl ?_
            refine s_callVv 3 C (c_X3_read _ w _ T hX hI sn ik nn hsnb (by omega) (by omega)) gX7_log_X3_read rfl (by decide +kernel) (by decide) (by decide) (by decide) rfl (by decide) rfl rfl rfl (Nat.le_of_ble_eq_true rfl) dX7_log_78 ?_
            rintro S7 ⟨hX7, hL⟩
            refine s_aload_n C 1 dX7_log_81 rfl ?_
            refine s_aload_n C 1 dX7_log_82 rfl ?_
            refine s_getR C 7 6 (hX7.1 _ _ _ rfl) (by decide) rfl (by decide) rfl (fun _ h => List.mem_cons_of_mem _ (List.mem_append_left _ (List.mem_append_left _ (List.mem_append_left _ (List.mem_append_right _ h))))) (by decide) rfl (by decide +kernel) dX7_log_83 ?_
            refine s_iload C 5 dX7_log_86 rfl ?_
            refine s_callVi 1 C (c_X3_told _ w _ hX7.1 (ih_lg T (60 * sn + ik) nn) hL wn (by omega)) gX7_log_X3_told rfl (by decide +kernel) (by decide) (by decide) (by decide) rfl (by decide) rfl rfl rfl (Nat.le_of_ble_eq_true rfl) dX7_log_88 ?_
            rintro rt S8 ⟨hrt, hSS⟩
            obtain rfl := hSS.symm
            refine s_callVi 1 C (c_X7_fine _ w _ _) gX7_log_X7_fine rfl (by decide +kernel) (by decide) (by decide) (by decide) rfl (by decide) rfl rfl rfl (Nat.le_of_ble_eq_true rfl) dX7_log_91 ?_
            rintro rf S3 ⟨hrf, hS3⟩
            exact s_ireturn C hA dX7_log_94 (by rw [sp_log, if_pos (show _ from by omega), ih_n_nI hsn, ih_n_nI hnn, ih_n_nI hwn, ih_n_nI hik, if_neg hok1, if_pos hok2]; exact ⟨hrf.trans hrt, by rw [hS3]; exact ih_RX_f hX7 (nI 0)⟩)
          · refine s_aload_n C 1 dX7_log_56 rfl ?_
            refine s_iload C 0 dX7_log_57 rfl ?_
            refine s_callVi 1 C (c_X7_found _ w _ _) gX7_log_X7_found rfl (by decide +kernel) (by decide) (by decide) (by decide) rfl (by decide) rfl rfl rfl (Nat.le_of_ble_eq_true rfl) dX7_log_59 ?_
            rintro rf S2 ⟨hrf, hS2⟩
            exact s_ireturn C hA dX7_log_62 (by
              rw [sp_log, if_pos (show _ from by omega), ih_n_nI hsn, ih_n_nI hnn]
              rcases hmz2 with ⟨q1, q2⟩ | ⟨q1, q2, q3⟩ | ⟨q1, q2, q3⟩
              · rw [if_pos q1]; exact ⟨by rw [hrf, q2]; rfl, by rw [hS2, q2]; exact ih_RX_f hX (nI 1)⟩
              · exact absurd q3 h53
              · rw [if_neg q1, if_neg q2]; exact ⟨by rw [hrf, q3]; rfl, by rw [hS2, q3]; exact ih_RX_f hX (nI 2)⟩)
        · replace h36 := ih_b0 hrw33 h36
          refine s_ldc (v := (-1000001)) C (by decide +kernel) dX7_log_39 ?_
          exact s_ireturn C hA dX7_log_41 (by rw [sp_log, if_neg (by omega)]; exact ⟨rfl, hX⟩)

theorem ih_al_sum (f : Nat → Nat) : ih_sum f 6 = ih_al f := ih_sum_6 f
theorem ih_lc_row {T : ih_TT} {k : Nat} {v : Nat → Nat} {a : Nat} (h : a ≠ 4) : ∀ n, ih_lc T k v n a = T a
  | 0 => rfl
  | n + 1 => by
    show ih_u2 (ih_lc T k v n) 4 _ _ a = _
    rw [ih_u2_row h, ih_lc_row h n]
theorem ih_lc_lo {T : ih_TT} {k : Nat} {v : Nat → Nat} {j : Nat} (h : j < 7 * k) : ∀ n, ih_lc T k v n 4 j = T 4 j
  | 0 => rfl
  | n + 1 => by
    show ih_u2 (ih_lc T k v n) 4 _ _ 4 j = _
    rw [ih_u2_j (by omega), ih_lc_lo h n]
/-- the chances of a learned striker as they are written -/
def ih_LN (Sb S : ih_Sg) (T : ih_TT) (c : Nat) (v : Nat → Nat) (n : Nat) : Prop := S.2 = Sb.2 ∧ (∀ k, k ≠ 20 + 2 * c → S.1 k = Sb.1 k) ∧ rx_k S.1 (ih_lc T c v n)
theorem ih_LN_w {Sb S : ih_Sg} {T : ih_TT} {c : Nat} {v : Nat → Nat} {n : Nat} (h : ih_LN Sb S T c v n) (hc : c < 12) (hn : n < 5) : ih_LN Sb (ih_sI S (20 + 2 * c) (n + 1) (nI (v (n + 1)))) T c v (n + 1) := ⟨h.1, fun k hk => (ih_sI_row hk).trans (h.2.1 k hk), rx_k_w h.2.2 hc (by omega) _⟩
theorem ih_lc_u {T : ih_TT} {k : Nat} {v : Nat → Nat} {w : Int32} : ∀ n, ih_lc (ih_u2 T 0 1 w) k v n = ih_u2 (ih_lc T k v n) 0 1 w
  | 0 => rfl
  | n + 1 => by
    show ih_u2 (ih_lc (ih_u2 T 0 1 w) k v n) 4 _ _ = ih_u2 (ih_u2 (ih_lc T k v n) 4 _ _) 0 1 w
    rw [ih_lc_u n, ih_u2_sw (by decide)]
theorem ih_lc_sw {T : ih_TT} {k n : Nat} {v : Nat → Nat} {w p q : Int32} : ih_u2 (ih_set1 (ih_u2 (ih_lc (ih_u2 T 0 1 w) k v n) 4 (7 * k + 6) p) k) 0 5 q = ih_u2 (ih_u2 (ih_set1 (ih_u2 (ih_lc T k v n) 4 (7 * k + 6) p) k) 0 5 q) 0 1 w := by
  rw [ih_lc_u, ih_u2_sw (a := 0) (c := 4) (by decide)]
  have e : ∀ X : ih_TT, ih_set1 (ih_u2 X 0 1 w) k = ih_u2 (ih_set1 X k) 0 1 w := by
    intro X
    unfold ih_set1
    rw [ih_u2_k (by decide), ih_u2_k (by decide), ih_u2_k (by decide), ih_u2_k (by decide), ih_u2_k (by decide), ih_u2_sw (by decide)]
  rw [e, ih_u2_sj (by decide)]
set_option maxHeartbeats 4000000 in
set_option maxRecDepth 100000 in
theorem c_X7_learn (l : Launch) (w : ih_Wd) (S : ih_Sg) (T : ih_TT) (hX : ih_RX S T) (hI : ih_Inv T) (s i n p_ : Int32) : ih_Ci l yX7_learn wsX7_learn 3 w ih_shX [.ref (w.2.2 0), .int s, .int i, .int n, .int p_] S (fun r S' => r = (sp_learn T s i n p_).1 ∧ ih_RX S' (sp_learn T s i n p_).2) := by
  refine ih_bodyi (ret := some .int) rfl rfl (Nat.le_of_ble_eq_true rfl) ?_
  intro x A hA C
  have C : ih_Ok x w A cX7_learn 9 RX7 wsX7_learn (ih_rm 3) (some .int) := C
  show ih_Mw x w ih_shX A (ih_Qi x w ih_shX A _) 9 0 0 0 [(0, .ref (w.2.2 0)), (1, .int s), (2, .int i), (3, .int n), (4, .int p_)] [] S
  obtain ⟨Q, hQ⟩ : ∃ Q, Q = ih_Qi x w ih_shX A (fun r S' => r = (sp_learn T s i n p_).1 ∧ ih_RX S' (sp_learn T s i n p_).2) := ⟨_, rfl⟩
  rw [show ih_Qi x w ih_shX A _ = Q from hQ.symm]
  have hct : ih_ct T ≤ 12 := hI.2.1.2.1
  have hp := hX.1
  refine s_iload_n C 1 dX7_learn_0 rfl ?_
  refine s_callSi 1 C (c_X7_isSheet _ w _ _) gX7_learn_X7_isSheet rfl (by decide +kernel) (by decide) (by decide) rfl rfl (Nat.le_of_ble_eq_true rfl) dX7_learn_1 ?_
  rintro rs1 S2 ⟨hrs1, hSS⟩
  obtain rfl := hSS.symm
  refine s_if_eq C 25 dX7_learn_4 (by decide) (fun h4 => ?_) (fun h4 => ?_)
  · replace h4 := ih_b0 hrs1 h4
    refine s_ldc (v := (-1000001)) C (by decide +kernel) dX7_learn_25 ?_
    rw [hQ]
    exact s_ireturn C hA dX7_learn_27 (by rw [sp_learn, if_neg (by omega)]; exact ⟨rfl, hX⟩)
  · replace h4 := ih_b1 hrs1 h4
    refine s_iload_n C 3 dX7_learn_7 rfl ?_
    refine s_iconst (v := nI 1) C dX7_learn_8 (by decide) ?_
    refine s_bipush (v := nI 20) C dX7_learn_9 (by decide) ?_
    refine s_callSi 3 C (c_X7_within _ w _ _ _ _ _) gX7_learn_X7_within rfl (by decide +kernel) (by decide) (by decide) rfl rfl (Nat.le_of_ble_eq_true rfl) dX7_learn_11 ?_
    rintro rw11 S2 ⟨hrw11, hSS⟩
    obtain rfl := hSS.symm
    rw [ih_t (by decide), ih_t (by decide)] at hrw11
    refine s_if_eq C 25 dX7_learn_14 (by decide) (fun h14 => ?_) (fun h14 => ?_)
    · replace h14 := ih_b0 hrw11 h14
      refine s_ldc (v := (-1000001)) C (by decide +kernel) dX7_learn_25 ?_
      rw [hQ]
      exact s_ireturn C hA dX7_learn_27 (by rw [sp_learn, if_neg (by omega)]; exact ⟨rfl, hX⟩)
    · replace h14 := ih_b1 hrw11 h14
      refine s_iload C 4 dX7_learn_17 rfl ?_
      refine s_callSi 1 C (c_X7_isChance _ w _ _) gX7_learn_X7_isChance rfl (by decide +kernel) (by decide) (by decide) rfl rfl (Nat.le_of_ble_eq_true rfl) dX7_learn_19 ?_
      rintro rc19 S2 ⟨hrc19, hSS⟩
      obtain rfl := hSS.symm
      refine s_if_ne C 28 dX7_learn_22 (by decide) (fun h22 => ?_) (fun h22 => ?_)
      · replace h22 := ih_b1 hrc19 h22
        obtain ⟨sn, hsn, rfl, hsnt⟩ := ih_nat (a := s) h4.1
        have hsnb : sn < 8 := by omega
        obtain ⟨nn, hnn, rfl, hnnt⟩ := ih_nat (a := n) (by omega)
        have hnnb : nn < 21 := by omega
        obtain ⟨pn, hpn, rfl, hpnt⟩ := ih_nat (a := p_) h22.1
        have hp := hX.1
        have hmn : ih_mn T sn ≤ 60 := (hI.1 sn hsnb).2.2
        refine s_aload_n C 0 dX7_learn_28 rfl ?_
        refine s_getI C 7 2 (by decide) rfl (by decide) rfl (fun _ h => List.mem_cons_of_mem _ (List.mem_append_left _ (List.mem_append_left _ (List.mem_append_left _ (List.mem_append_left _ (List.mem_append_right _ h)))))) (by decide) rfl (by decide +kernel) dX7_learn_29 ?_
        refine s_toe (ih_RX_ct hX hI) ?_
        refine s_bipush (v := nI 12) C dX7_learn_32 (by decide) ?_
        refine s_icmp_ltN 40 C dX7_learn_34 (by decide) (by omega) (by omega) (fun h34 => ?_) (fun h34 => ?_)
        · have hc12 : ih_ct T < 12 := by omega
          refine s_aload_n C 0 dX7_learn_40 rfl ?_
          refine s_iload_n C 1 dX7_learn_41 rfl ?_
          refine s_iload_n C 2 dX7_learn_42 rfl ?_
          refine s_iload_n C 3 dX7_learn_43 rfl ?_
          refine s_callVi 3 C (c_X7_findingOfLog _ w _ T hX hI sn hsnb i nn (by omega)) gX7_learn_X7_findingOfLog rfl (by decide +kernel) (by decide) (by decide) (by decide) rfl (by decide) rfl rfl rfl (Nat.le_of_ble_eq_true rfl) dX7_learn_44 ?_
          rintro rf0 S2 ⟨hrf0, hSS⟩
          obtain rfl := hSS.symm
          obtain ⟨mz, hmz⟩ : ∃ mz : Nat, mz = if (T 1 sn).toInt < 0 then 1 else if 0 ≤ i.toInt ∧ i.toInt + 3 * nn ≤ ih_mn T sn then 0 else 2 := ⟨_, rfl⟩
          rw [← hmz] at hrf0
          subst hrf0
          have hmz2 : ((T 1 sn).toInt < 0 ∧ mz = 1) ∨ (¬ (T 1 sn).toInt < 0 ∧ (0 ≤ i.toInt ∧ i.toInt + 3 * nn ≤ ih_mn T sn) ∧ mz = 0) ∨ (¬ (T 1 sn).toInt < 0 ∧ ¬ (0 ≤ i.toInt ∧ i.toInt + 3 * nn ≤ ih_mn T sn) ∧ mz = 2) := by
            rw [hmz]
            by_cases q1 : (T 1 sn).toInt < 0
            · rw [if_pos q1]; exact Or.inl ⟨q1, rfl⟩
            · rw [if_neg q1]
              by_cases q2 : 0 ≤ i.toInt ∧ i.toInt + 3 * nn ≤ ih_mn T sn
              · rw [if_pos q2]; exact Or.inr (Or.inl ⟨q1, q2, rfl⟩)
              · rw [if_neg q2]; exact Or.inr (Or.inr ⟨q1, q2, rfl⟩)
          refine s_istore (lv' := [(5, .int (nI mz)), (0, .ref (w.2.2 0)), (1, .int (nI sn)), (2, .int i), (3, .int (nI nn)), (4, .int (nI pn))]) C dX7_learn_47 (by decide) rfl ?_
          refine s_iload C 0 dX7_learn_49 rfl ?_
          refine s_if_eqN 61 C dX7_learn_51 (by decide) (by omega) (fun h51 => ?_) (fun h51 => ?_)
          · have hok1 : ¬ (T 1 sn).toInt < 0 := by omega
            have hok2 : 0 ≤ i.toInt ∧ i.toInt + 3 * nn ≤ ih_mn T sn := by omega
            obtain ⟨ik, hik, rfl, hikt⟩ := ih_nat (a := i) hok2.1
            refine s_aload_n C 1 dX7_learn_61 rfl ?_
            refine s_getR C 7 6 (hp _ _ _ rfl) (by decide) rfl (by decide) rfl (fun _ h => List.mem_cons_of_mem _ (List.mem_append_left _ (List.mem_append_left _ (List.mem_append_left _ (List.mem_append_left _ (List.mem_append_right _ h)))))) (by decide) rfl (by decide +kernel) dX7_learn_62 ?_
            refine s_aload_n C 1 dX7_learn_65 rfl ?_
            refine s_getR C 7 0 (hp _ _ _ rfl) (by decide) rfl (by decide) rfl (fun _ h => List.mem_cons_of_mem _ (List.mem_append_left _ (List.mem_append_left _ (List.mem_append_left _ (List.mem_append_left _ (List.mem_append_right _ h)))))) (by decide) rfl (by decide +kernel) dX7_learn_66 ?_
            refine s_iload_n C 2 dX7_learn_69 rfl ?_
            refine s_aaload C 8 (sn) (hp _ _ _ (ih_pX_sh hsnb)) rfl rfl (by omega) (by decide) (by decide) rfl (by decide) dX7_learn_70 ?_
            refine s_getR C 5 0 (hp _ _ _ (ih_pX_it hsnb)) (by show 2 + 2 * sn < 62; omega) (ih_kX_sh hsnb) (by decide) rfl (fun _ h => List.mem_cons_of_mem _ (List.mem_append_left _ (List.mem_append_left _ (List.mem_append_left _ (List.mem_append_right _ h))))) (by decide) rfl (by decide +kernel) dX7_learn_71 ?_
            refine s_iload_n C 3 dX7_learn_74 rfl ?_
            refine s_iload_n C 4 dX7_learn_75 rfl ?_
            refine s_callVv 3 C (c_X3_read _ w _ T hX hI sn ik nn hsnb (by omega) (by omega)) gX7_learn_X3_read rfl (by decide +kernel) (by decide) (by decide) (by decide) rfl (by decide) rfl rfl rfl (Nat.le_of_ble_eq_true rfl) dX7_learn_76 ?_
            rintro S7 ⟨hX7, hL⟩
            refine s_aload_n C 1 dX7_learn_79 rfl ?_
            refine s_getR C 7 6 (hX7.1 _ _ _ rfl) (by decide) rfl (by decide) rfl (fun _ h => List.mem_cons_of_mem _ (List.mem_append_left _ (List.mem_append_left _ (List.mem_append_left _ (List.mem_append_left _ (List.mem_append_right _ h)))))) (by decide) rfl (by decide +kernel) dX7_learn_80 ?_
            refine s_callVi 0 C (c_X3_howManyStrikes _ w _ hX7.1 (ih_lg T (60 * sn + ik) nn) hL) gX7_learn_X3_howManyStrikes rfl (by decide +kernel) (by decide) (by decide) (by decide) rfl (by decide) rfl rfl rfl (Nat.le_of_ble_eq_true rfl) dX7_learn_83 ?_
            rintro rt S8 ⟨hrt, hSS⟩
            obtain rfl := hSS.symm
            rw [ih_al_sum] at hrt
            subst hrt
            have hal : ih_al (ih_lg T (60 * sn + ik) nn).2.2.2.2 ≤ 120 := by
              have q := (ih_lg_le (T := T) (b := 60 * sn + ik) nn).2.2.2
              have q0 := q 0
              have q1 := q 1
              have q2 := q 2
              have q3 := q 3
              have q4 := q 4
              have q5 := q 5
              unfold ih_al; omega
            refine s_istore (lv' := [(6, .int (nI (ih_al (ih_lg T (60 * sn + ik) nn).2.2.2.2))), (5, .int (nI mz)), (0, .ref (w.2.2 0)), (1, .int (nI sn)), (2, .int (nI ik)), (3, .int (nI nn)), (4, .int (nI pn))]) C dX7_learn_86 (by decide) rfl ?_
            refine s_iload C 0 dX7_learn_88 rfl ?_
            refine s_if_neN 96 C dX7_learn_90 (by decide) (by omega) (fun h90 => ?_) (fun h90 => ?_)
            · refine s_aload_n C 2 dX7_learn_96 rfl ?_
              refine s_getR C 7 1 (hX7.1 _ _ _ rfl) (by decide) rfl (by decide) rfl (fun _ h => List.mem_cons_of_mem _ (List.mem_append_left _ (List.mem_append_left _ (List.mem_append_left _ (List.mem_append_left _ (List.mem_append_right _ h)))))) (by decide) rfl (by decide +kernel) dX7_learn_97 ?_
              refine s_aload_n C 2 dX7_learn_100 rfl ?_
              refine s_getI C 7 2 (by decide) rfl (by decide) rfl (fun _ h => List.mem_cons_of_mem _ (List.mem_append_left _ (List.mem_append_left _ (List.mem_append_left _ (List.mem_append_left _ (List.mem_append_right _ h)))))) (by decide) rfl (by decide +kernel) dX7_learn_101 ?_
              refine s_toe (ih_RX_ct hX7 hI) ?_
              refine s_aaload C 12 (ih_ct T) (hX7.1 _ _ _ (ih_pX_st hc12)) rfl rfl (by omega) (by decide) (by decide) rfl (by decide) dX7_learn_104 ?_
              refine s_astore (lv' := [(7, .ref (w.2.2 (19 + 2 * (ih_ct T)))), (6, .int (nI (ih_al (ih_lg T (60 * sn + ik) nn).2.2.2.2))), (5, .int (nI mz)), (0, .ref (w.2.2 0)), (1, .int (nI sn)), (2, .int (nI ik)), (3, .int (nI nn)), (4, .int (nI pn))]) C dX7_learn_105 (by decide) rfl ?_
              refine s_iconst (v := nI 1) C dX7_learn_107 (by decide) ?_
              refine s_istore (lv' := [(8, .int (nI 1)), (7, .ref (w.2.2 (19 + 2 * (ih_ct T)))), (6, .int (nI (ih_al (ih_lg T (60 * sn + ik) nn).2.2.2.2))), (5, .int (nI mz)), (0, .ref (w.2.2 0)), (1, .int (nI sn)), (2, .int (nI ik)), (3, .int (nI nn)), (4, .int (nI pn))]) C dX7_learn_108 (by decide) rfl ?_
              have hx_110 : ∀ S, ih_LN S7 S T (ih_ct T) (fun a => (ih_lg T (60 * sn + ik) nn).2.2.2.2 a * 1000 / ih_al (ih_lg T (60 * sn + ik) nn).2.2.2.2) (5) → ih_Mw x w ih_shX A Q 9 0 0 147 [(0, .ref (w.2.2 0)), (4, .int (nI pn)), (6, .int (nI (ih_al (ih_lg T (60 * sn + ik) nn).2.2.2.2))), (7, .ref (w.2.2 (19 + 2 * (ih_ct T))))] [] S := by
                intro S hE
                obtain ⟨SW, hSW⟩ : ∃ SW, SW = S := ⟨_, rfl⟩
                subst hSW
                have hpW : ih_PX SW := fun a b i q => by rw [hE.1]; exact hX7.1 a b i q
                refine s_aload C 3 dX7_learn_147 rfl ?_
                refine s_callVv 0 C (c_X6_giveTheRestToOut _ w SW hpW (ih_ct T) hc12) gX7_learn_X6_giveTheRestToOut rfl (by decide +kernel) (by decide) (by decide) (by show 19 + 2 * (ih_ct T) < 62; omega) (ih_kX_st hc12) (by decide) rfl rfl rfl (Nat.le_of_ble_eq_true rfl) dX7_learn_149 ?_
                rintro S4 hS4
                refine s_aload C 3 dX7_learn_152 rfl ?_
                refine s_iload C 1 dX7_learn_154 rfl ?_
                refine s_putI (ty := .int) C 6 1 tyX6 tyX6_ok nmX6 (by show 19 + 2 * (ih_ct T) < 62; omega) (ih_kX_st hc12) (by decide) rfl (fun _ h => List.mem_cons_of_mem _ (List.mem_append_left _ (List.mem_append_left _ (List.mem_append_right _ h)))) (by decide) rfl (by decide +kernel) rfl (by decide +kernel) rfl rfl dX7_learn_156 ?_
                refine s_aload_n C 0 dX7_learn_159 rfl ?_
                refine s_aload_n C 0 dX7_learn_160 rfl ?_
                refine s_callVi 0 C (c_X7_admitted _ w _ (ih_ct T) (by rw [ih_sI_row (by omega), hS4, ih_sI_row (by omega), hE.2.1 0 (by omega)]; exact ih_RX_ct hX7 hI)) gX7_learn_X7_admitted rfl (by decide +kernel) (by decide) (by decide) (by decide) rfl (by decide) rfl rfl rfl (Nat.le_of_ble_eq_true rfl) dX7_learn_161 ?_
                rintro rr S5 ⟨hrr, hS5⟩
                refine s_callVi 1 C (c_X7_fine _ w _ _) gX7_learn_X7_fine rfl (by decide +kernel) (by decide) (by decide) (by decide) rfl (by decide) rfl rfl rfl (Nat.le_of_ble_eq_true rfl) dX7_learn_164 ?_
                rintro rf S3 ⟨hrf, hS3⟩
                rw [hQ]
                exact s_ireturn C hA dX7_learn_167 (by
                  rw [sp_learn, if_pos (show ((0 ≤ (nI sn).toInt ∧ (nI sn).toInt ≤ 7) ∧ (1 ≤ (nI nn).toInt ∧ (nI nn).toInt ≤ 20) ∧ (0 ≤ (nI pn).toInt ∧ (nI pn).toInt ≤ 1000)) by omega), ih_n_nI hsn, ih_n_nI hnn, if_neg (by omega), if_neg hok1, if_pos hok2, ih_n_nI hik, if_neg (by omega)]
                  refine ⟨hrf.trans hrr, ?_⟩
                  have hT0 := ih_RX_f hX7 (nI 0)
                  have hnew := ih_RX_new (S := S7) (W := SW) (T := T) (X := ih_lc T (ih_ct T) (fun a => (ih_lg T (60 * sn + ik) nn).2.2.2.2 a * 1000 / ih_al (ih_lg T (60 * sn + ik) nn).2.2.2.2) 5) (c := ih_ct T) hX7 hI rfl hc12 hE.1 hE.2.1 hE.2.2 (fun k hk => ih_lc_row hk 5) (fun j hj => ih_lc_lo hj 5) (nI pn)
                  have hfin := ih_RX_f hnew (nI 0)
                  rw [hS3, hS5, hS4]
                  rw [ih_lc_sw]
                  exact hfin)
              have loop_110 : ∀ (fu m : Nat), m + fu = 5 → ∀ S, ih_LN S7 S T (ih_ct T) (fun a => (ih_lg T (60 * sn + ik) nn).2.2.2.2 a * 1000 / ih_al (ih_lg T (60 * sn + ik) nn).2.2.2.2) (m) → ih_Mw x w ih_shX A Q 9 0 0 110 [(0, .ref (w.2.2 0)), (4, .int (nI pn)), (6, .int (nI (ih_al (ih_lg T (60 * sn + ik) nn).2.2.2.2))), (7, .ref (w.2.2 (19 + 2 * (ih_ct T)))), (8, .int (nI (m + 1)))] [] S := by
                intro fu
                induction fu with
                | zero =>
                  intro m hme S hE
                  have hm0 : m = 5 := by omega
                  refine s_iload C 4 dX7_learn_110 rfl ?_
                  refine s_iconst (v := nI 5) C dX7_learn_112 (by decide) ?_
                  refine s_icmp_gtN 147 C dX7_learn_113 (by decide) (by omega) (by omega) (fun h113 => ?_) (fun h113 => ?_)
                  · refine s_perm [0, 1, 2, 3] rfl ?_
                    subst hm0
                    exact hx_110 _ hE
                  · exfalso; omega
                | succ fu ih_110 =>
                  intro m hme S hE
                  have hml : m < 5 := by omega
                  have hpS : ih_PX S := fun a b i q => by rw [hE.1]; exact hX7.1 a b i q
                  refine s_iload C 4 dX7_learn_110 rfl ?_
                  refine s_iconst (v := nI 5) C dX7_learn_112 (by decide) ?_
                  refine s_icmp_gtN 147 C dX7_learn_113 (by decide) (by omega) (by omega) (fun h113 => ?_) (fun h113 => ?_)
                  · exfalso; omega
                  · refine s_aload C 3 dX7_learn_116 rfl ?_
                    refine s_getR C 6 0 (hpS _ _ _ (ih_pX_ch hc12)) (by show 19 + 2 * (ih_ct T) < 62; omega) (ih_kX_st hc12) (by decide) rfl (fun _ h => List.mem_cons_of_mem _ (List.mem_append_left _ (List.mem_append_left _ (List.mem_append_right _ h)))) (by decide) rfl (by decide +kernel) dX7_learn_118 ?_
                    refine s_iload C 4 dX7_learn_121 rfl ?_
                    refine s_aload_n C 0 dX7_learn_123 rfl ?_
                    refine s_getR C 7 6 (hpS _ _ _ rfl) (by decide) rfl (by decide) rfl (fun _ h => List.mem_cons_of_mem _ (List.mem_append_left _ (List.mem_append_left _ (List.mem_append_left _ (List.mem_append_left _ (List.mem_append_right _ h)))))) (by decide) rfl (by decide +kernel) dX7_learn_124 ?_
                    refine s_getR C 3 1 (hpS _ _ _ rfl) (by decide) rfl (by decide) rfl (fun _ h => List.mem_cons_of_mem _ (List.mem_append_left _ (List.mem_append_right _ h))) (by decide) rfl (by decide +kernel) dX7_learn_127 ?_
                    refine s_iload C 4 dX7_learn_130 rfl ?_
                    refine s_iaload C 9 (m + 1) rfl rfl (by omega) (by decide) (by decide) rfl dX7_learn_132 ?_
                    refine s_toe (b := nI ((ih_lg T (60 * sn + ik) nn).2.2.2.2 (m + 1))) ((congrFun (hE.2.1 59 (by omega)) _).trans (hL.2.2.2.2 (m + 1) (by omega))) ?_
                    have htb := (ih_lg_le (T := T) (b := 60 * sn + ik) nn).2.2.2 (m + 1)
                    refine s_sipush (v := nI 1000) C dX7_learn_133 (by decide) ?_
                    refine s_imulN C dX7_learn_136 ?_
                    refine s_iload C 2 dX7_learn_137 rfl ?_
                    refine s_idivN C dX7_learn_139 (by omega) (by omega) (by omega) ?_
                    refine s_iastore C 6 (m + 1) rfl (ih_lX_ch hc12) (by omega) (by decide) (by show 20 + 2 * (ih_ct T) < 62; omega) (ih_kX_ch hc12) dX7_learn_140 ?_
                    refine s_iinc (u := nI (m + 1 + 1)) (lv' := [(8, .int (nI (m + 1 + 1))), (0, .ref (w.2.2 0)), (4, .int (nI pn)), (6, .int (nI (ih_al (ih_lg T (60 * sn + ik) nn).2.2.2.2))), (7, .ref (w.2.2 (19 + 2 * (ih_ct T))))]) C 4 dX7_learn_141 rfl (ih_incN (by decide)) (by decide) rfl ?_
                    refine s_goto C 110 dX7_learn_144 (by decide) ?_
                    refine s_perm [1, 2, 3, 4, 0] rfl ?_
                    exact ih_110 (m + 1) (by omega) _ (ih_LN_w hE hc12 (by omega))
              refine s_perm [4, 8, 2, 1, 0] rfl ?_
              exact loop_110 5 0 (by omega) _ ⟨rfl, fun _ _ => rfl, hX7.2.2.2.2.2.1⟩
            · refine s_ldc (v := (-1000002)) C (by decide +kernel) dX7_learn_93 ?_
              rw [hQ]
              exact s_ireturn C hA dX7_learn_95 (by rw [sp_learn, if_pos (show ((0 ≤ (nI sn).toInt ∧ (nI sn).toInt ≤ 7) ∧ (1 ≤ (nI nn).toInt ∧ (nI nn).toInt ≤ 20) ∧ (0 ≤ (nI pn).toInt ∧ (nI pn).toInt ≤ 1000)) by omega), ih_n_nI hsn, ih_n_nI hnn, if_neg (by omega), if_neg hok1, if_pos hok2, ih_n_nI hik, if_pos (by omega)]; exact ⟨rfl, hX7⟩)
          · refine s_aload_n C 1 dX7_learn_54 rfl ?_
            refine s_iload C 0 dX7_learn_55 rfl ?_
            refine s_callVi 1 C (c_X7_found _ w _ _) gX7_learn_X7_found rfl (by decide +kernel) (by decide) (by decide) (by decide) rfl (by decide) rfl rfl rfl (Nat.le_of_ble_eq_true rfl) dX7_learn_57 ?_
            rintro rf S2 ⟨hrf, hS2⟩
            rw [hQ]
            exact s_ireturn C hA dX7_learn_60 (by
              rw [sp_learn, if_pos (show ((0 ≤ (nI sn).toInt ∧ (nI sn).toInt ≤ 7) ∧ (1 ≤ (nI nn).toInt ∧ (nI nn).toInt ≤ 20) ∧ (0 ≤ (nI pn).toInt ∧ (nI pn).toInt ≤ 1000)) by omega), ih_n_nI hsn, ih_n_nI hnn, if_neg (by omega)]
              rcases hmz2 with ⟨q1, q2⟩ | ⟨q1, q2, q3⟩ | ⟨q1, q2, q3⟩
              · rw [if_pos q1]; exact ⟨by rw [hrf, q2]; rfl, by rw [hS2, q2]; exact ih_RX_f hX (nI 1)⟩
              · exact absurd q3 h51
              · rw [if_neg q1, if_neg q2]; exact ⟨by rw [hrf, q3]; rfl, by rw [hS2, q3]; exact ih_RX_f hX (nI 2)⟩)
        · refine s_ldc (v := (-1000003)) C (by decide +kernel) dX7_learn_37 ?_
          rw [hQ]
          exact s_ireturn C hA dX7_learn_39 (by rw [sp_learn, if_pos (show ((0 ≤ (nI sn).toInt ∧ (nI sn).toInt ≤ 7) ∧ (1 ≤ (nI nn).toInt ∧ (nI nn).toInt ≤ 20) ∧ (0 ≤ (nI pn).toInt ∧ (nI pn).toInt ≤ 1000)) by omega), ih_n_nI hsn, ih_n_nI hnn, if_pos (by omega)]; exact ⟨rfl, hX⟩)
      · replace h22 := ih_b0 hrc19 h22
        refine s_ldc (v := (-1000001)) C (by decide +kernel) dX7_learn_25 ?_
        rw [hQ]
        exact s_ireturn C hA dX7_learn_27 (by rw [sp_learn, if_neg (by omega)]; exact ⟨rfl, hX⟩)

