theorem ih_RX_w5 {S : ih_Sg} {T : ih_TT} (h : ih_RX S T) {j : Nat} (v : Int32) : ih_RX (ih_sI S 47 j v) (ih_u2 T 5 j v) := by
  refine ih_RX_oo h h.1 h.2.1 (fun k h1 h2 => ih_sI_row (by omega)) (by rw [ih_sI_row (by decide)]) ⟨?_, fun i hi => ?_⟩ (fun k h1 h2 h3 => ih_u2_row h2) ?_ ?_ ?_
  · rw [ih_sI_row (by decide), ih_u2_k (by decide)]; exact h.2.2.2.2.2.2.1.1
  · by_cases e : i = j
    · rw [e, ih_sI_s, ih_u2_s]
    · rw [ih_sI_j e, ih_u2_j e]; exact h.2.2.2.2.2.2.1.2 i hi
  · rw [ih_u2_k (by decide)]
  · rw [ih_u2_k (by decide)]
  · rw [ih_u2_k (by decide)]
theorem ih_xc_same {T : ih_TT} {a b : Nat} (h : T 5 a = T 5 b) : ih_xc T a b = T := by
  funext k j
  unfold ih_xc ih_u2
  by_cases h1 : k = 5 ∧ j = b
  · rw [if_pos h1, h1.1, h1.2]; exact h
  · rw [if_neg h1]
    by_cases h2 : k = 5 ∧ j = a
    · rw [if_pos h2, h2.1, h2.2]; exact h.symm
    · rw [if_neg h2]
theorem ih_fb {S : ih_Sg} {T : ih_TT} {a b : Nat} (hfe : ih_fi (ih_bet T) 81 = 9 * a + b) (hab : a < b) (hb : b < 9) (h : ih_RX S (ih_xc T a b)) : ih_fi (ih_bet T) 81 < 81 ∧ nI 1 = nI 1 ∧ ih_RX S (ih_xc T (ih_fi (ih_bet T) 81 / 9) (ih_fi (ih_bet T) 81 % 9)) := by
  generalize ih_fi (ih_bet T) 81 = q at hfe ⊢
  subst hfe
  refine ⟨by omega, rfl, ?_⟩
  rw [show (9 * a + b) / 9 = a by omega, show (9 * a + b) % 9 = b by omega]
  exact h
theorem ih_it_s {T : ih_TT} {n : Nat} : ih_it T (n + 1) = ih_xc (ih_it T n) (ih_fi (ih_bet (ih_it T n)) 81 / 9) (ih_fi (ih_bet (ih_it T n)) 81 % 9) := by rw [ih_it]
set_option maxHeartbeats 4000000 in
set_option maxRecDepth 100000 in
theorem c_X2_exchange (l : Launch) (w : ih_Wd) (S : ih_Sg) (T : ih_TT) (hX : ih_RX S T) (a b : Nat) (ha : a < 9) (hb : b < 9) : ih_Cv l yX2_exchange wsX2_exchange 0 w ih_shX [.ref (w.2.2 46), .int (nI a), .int (nI b)] S (fun S' => ih_RX S' (ih_xc T a b)) := by
  refine ih_bodyv (ret := none) rfl rfl (Nat.le_of_ble_eq_true rfl) ?_
  intro x A hA C
  have C : ih_Ok x w A cX2_exchange 4 RX2 wsX2_exchange (ih_rm 0) (none) := C
  show ih_Mw x w ih_shX A (ih_Qv x w ih_shX A _) 4 0 0 0 [(0, .ref (w.2.2 46)), (1, .int (nI a)), (2, .int (nI b))] [] S
  have hp := hX.1
  refine s_aload_n C 0 dX2_exchange_0 rfl ?_
  refine s_getR C 2 2 (hp _ _ _ rfl) (by decide) rfl (by decide) rfl (fun _ h => List.mem_cons_of_mem _ (List.mem_append_right _ h)) (by decide) rfl (by decide +kernel) dX2_exchange_1 ?_
  refine s_iload_n C 1 dX2_exchange_4 rfl ?_
  refine s_iaload C 9 (a) rfl rfl (by omega) (by decide) (by decide) rfl dX2_exchange_5 ?_
  refine s_toe (b := T 5 (a)) (hX.2.2.2.2.2.2.1.2 (a) (by omega)) ?_
  refine s_istore_n (lv' := [(3, .int (T 5 (a))), (0, .ref (w.2.2 46)), (1, .int (nI a)), (2, .int (nI b))]) C dX2_exchange_6 rfl (by decide) rfl ?_
  refine s_aload_n C 1 dX2_exchange_7 rfl ?_
  refine s_getR C 2 2 (hp _ _ _ rfl) (by decide) rfl (by decide) rfl (fun _ h => List.mem_cons_of_mem _ (List.mem_append_right _ h)) (by decide) rfl (by decide +kernel) dX2_exchange_8 ?_
  refine s_iload_n C 2 dX2_exchange_11 rfl ?_
  refine s_aload_n C 1 dX2_exchange_12 rfl ?_
  refine s_getR C 2 2 (hp _ _ _ rfl) (by decide) rfl (by decide) rfl (fun _ h => List.mem_cons_of_mem _ (List.mem_append_right _ h)) (by decide) rfl (by decide +kernel) dX2_exchange_13 ?_
  refine s_iload_n C 3 dX2_exchange_16 rfl ?_
  refine s_iaload C 9 (b) rfl rfl (by omega) (by decide) (by decide) rfl dX2_exchange_17 ?_
  refine s_toe (b := T 5 (b)) (hX.2.2.2.2.2.2.1.2 (b) (by omega)) ?_
  refine s_iastore C 9 (a) rfl rfl (by omega) (by decide) (by decide) rfl dX2_exchange_18 ?_
  refine s_aload_n C 1 dX2_exchange_19 rfl ?_
  refine s_getR C 2 2 (hp _ _ _ rfl) (by decide) rfl (by decide) rfl (fun _ h => List.mem_cons_of_mem _ (List.mem_append_right _ h)) (by decide) rfl (by decide +kernel) dX2_exchange_20 ?_
  refine s_iload_n C 3 dX2_exchange_23 rfl ?_
  refine s_iload_n C 0 dX2_exchange_24 rfl ?_
  refine s_iastore C 9 (b) rfl rfl (by omega) (by decide) (by decide) rfl dX2_exchange_25 ?_
  exact s_vreturn C hA dX2_exchange_26 (ih_RX_w5 (ih_RX_w5 hX _) _)

set_option maxHeartbeats 4000000 in
set_option maxRecDepth 100000 in
theorem c_X2_exchangeFirstBetter (l : Launch) (w : ih_Wd) (S : ih_Sg) (T : ih_TT) (hX : ih_RX S T) (hI : ih_Inv T) (hpl0 : 0 < ih_pl T) : ih_Ci l yX2_exchangeFirstBetter wsX2_exchangeFirstBetter 4 w ih_shX [.ref (w.2.2 46)] S (fun r S' => (ih_fi (ih_bet T) 81 < 81 ∧ r = nI 1 ∧ ih_RX S' (ih_xc T (ih_fi (ih_bet T) 81 / 9) (ih_fi (ih_bet T) 81 % 9))) ∨ (¬ ih_fi (ih_bet T) 81 < 81 ∧ r = nI 0 ∧ ih_RX S' T)) := by
  refine ih_bodyi (ret := some .boolean) rfl rfl (Nat.le_of_ble_eq_true rfl) ?_
  intro x A hA C
  have C : ih_Ok x w A cX2_exchangeFirstBetter 4 RX2 wsX2_exchangeFirstBetter (ih_rm 4) (some .boolean) := C
  show ih_Mw x w ih_shX A (ih_Qi x w ih_shX A _) 4 0 0 0 [(0, .ref (w.2.2 46))] [] S
  obtain ⟨Q, hQ⟩ : ∃ Q, Q = ih_Qi x w ih_shX A (fun r S' => (ih_fi (ih_bet T) 81 < 81 ∧ r = nI 1 ∧ ih_RX S' (ih_xc T (ih_fi (ih_bet T) 81 / 9) (ih_fi (ih_bet T) 81 % 9))) ∨ (¬ ih_fi (ih_bet T) 81 < 81 ∧ r = nI 0 ∧ ih_RX S' T)) := ⟨_, rfl⟩
  rw [show ih_Qi x w ih_shX A _ = Q from hQ.symm]
  have hp := hX.1
  have hpl9 : ih_pl T ≤ 9 := hI.2.2.1.2.1
  refine s_aload_n C 0 dX2_exchangeFirstBetter_0 rfl ?_
  refine s_callVi 0 C (c_X2_rateNow _ w _ T hX hI hpl0) gX2_exchangeFirstBetter_X2_rateNow rfl (by decide +kernel) (by decide) (by decide) (by decide) rfl (by decide) rfl rfl rfl (Nat.le_of_ble_eq_true rfl) dX2_exchangeFirstBetter_1 ?_
  rintro rv S ⟨hrv, hX⟩
  subst hrv
  refine s_istore_n (lv' := [(1, .int (nI (ih_rt T))), (0, .ref (w.2.2 46))]) C dX2_exchangeFirstBetter_4 rfl (by decide) rfl ?_
  refine s_iconst (v := nI 0) C dX2_exchangeFirstBetter_5 (by decide) ?_
  refine s_istore_n (lv' := [(2, .int (nI 0)), (1, .int (nI (ih_rt T))), (0, .ref (w.2.2 46))]) C dX2_exchangeFirstBetter_6 rfl (by decide) rfl ?_
  have hx_7 : ∀ S, (ih_RX S T ∧ ih_NB T (ih_pl T - 1) 0) → ih_Mw x w ih_shX A Q 4 0 0 81 [(0, .ref (w.2.2 46)), (1, .int (nI (ih_rt T)))] [] S := by
    intro S ⟨hX, hnb⟩
    refine s_iconst (v := nI 0) C dX2_exchangeFirstBetter_81 (by decide) ?_
    rw [hQ]
    exact s_zreturn C hA dX2_exchangeFirstBetter_82 (by decide) (Or.inr ⟨by rw [ih_NB_n (a := ih_pl T) (fun c d h1 h2 h3 => hnb c d h1 h2 (by omega)) (Nat.le_refl _)]; decide, rfl, hX⟩)
  have loop_7 : ∀ (fu a : Nat), a + fu = ih_pl T - 1 → ∀ S, (ih_RX S T ∧ ih_NB T (a) 0) → ih_Mw x w ih_shX A Q 4 0 0 7 [(0, .ref (w.2.2 46)), (1, .int (nI (ih_rt T))), (2, .int (nI a))] [] S := by
    intro fu
    induction fu with
    | zero =>
      intro a hae S ⟨hX, hnb⟩
      have ha0 : a = ih_pl T - 1 := by omega
      refine s_iload_n C 2 dX2_exchangeFirstBetter_7 rfl ?_
      refine s_aload_n C 0 dX2_exchangeFirstBetter_8 rfl ?_
      refine s_getI C 2 3 (by decide) rfl (by decide) rfl (fun _ h => List.mem_cons_of_mem _ (List.mem_append_left _ (List.mem_append_left _ (List.mem_append_right _ h)))) (by decide) rfl (by decide +kernel) dX2_exchangeFirstBetter_9 ?_
      refine s_toe (ih_RX_pl hX hI) ?_
      refine s_iconst (v := nI 1) C dX2_exchangeFirstBetter_12 (by decide) ?_
      refine s_isubN C dX2_exchangeFirstBetter_13 (by omega) ?_
      refine s_icmp_geN 81 C dX2_exchangeFirstBetter_14 (by decide) (by omega) (by omega) (fun h14 => ?_) (fun h14 => ?_)
      · refine s_perm [0, 1] rfl ?_
        subst ha0
        exact hx_7 _ ⟨hX, hnb⟩
      · exfalso; omega
    | succ fu ih_7 =>
      intro a hae S ⟨hX, hnb⟩
      have hal : a < ih_pl T - 1 := by omega
      have hp := hX.1
      refine s_iload_n C 2 dX2_exchangeFirstBetter_7 rfl ?_
      refine s_aload_n C 0 dX2_exchangeFirstBetter_8 rfl ?_
      refine s_getI C 2 3 (by decide) rfl (by decide) rfl (fun _ h => List.mem_cons_of_mem _ (List.mem_append_left _ (List.mem_append_left _ (List.mem_append_right _ h)))) (by decide) rfl (by decide +kernel) dX2_exchangeFirstBetter_9 ?_
      refine s_toe (ih_RX_pl hX hI) ?_
      refine s_iconst (v := nI 1) C dX2_exchangeFirstBetter_12 (by decide) ?_
      refine s_isubN C dX2_exchangeFirstBetter_13 (by omega) ?_
      refine s_icmp_geN 81 C dX2_exchangeFirstBetter_14 (by decide) (by omega) (by omega) (fun h14 => ?_) (fun h14 => ?_)
      · exfalso; omega
      · refine s_iload_n C 2 dX2_exchangeFirstBetter_17 rfl ?_
        refine s_iconst (v := nI 1) C dX2_exchangeFirstBetter_18 (by decide) ?_
        refine s_iaddN C dX2_exchangeFirstBetter_19 ?_
        refine s_istore_n (lv' := [(3, .int (nI (a + 1))), (0, .ref (w.2.2 46)), (1, .int (nI (ih_rt T))), (2, .int (nI a))]) C dX2_exchangeFirstBetter_20 rfl (by decide) rfl ?_
        have hx_21 : ∀ S, (ih_RX S T ∧ ih_NB T a (ih_pl T) ∧ a < ih_pl T) → ih_Mw x w ih_shX A Q 4 0 0 75 [(0, .ref (w.2.2 46)), (1, .int (nI (ih_rt T))), (2, .int (nI a))] [] S := by
          intro S ⟨hX, hnb, hab⟩
          refine s_iinc (u := nI (a + 1)) (lv' := [(2, .int (nI (a + 1))), (0, .ref (w.2.2 46)), (1, .int (nI (ih_rt T)))]) C 2 dX2_exchangeFirstBetter_75 rfl (ih_incN (by decide)) (by decide) rfl ?_
          refine s_goto C 7 dX2_exchangeFirstBetter_78 (by decide) ?_
          refine s_perm [1, 2, 0] rfl ?_
          exact ih_7 (a + 1) (by omega) _ ⟨hX, fun c d h1 h2 h3 => hnb c d h1 h2 (by omega)⟩
        have loop_21 : ∀ (fu b : Nat), b + fu = ih_pl T → ∀ S, (ih_RX S T ∧ ih_NB T a (b) ∧ a < b) → ih_Mw x w ih_shX A Q 4 0 0 21 [(0, .ref (w.2.2 46)), (1, .int (nI (ih_rt T))), (2, .int (nI a)), (3, .int (nI b))] [] S := by
          intro fu
          induction fu with
          | zero =>
            intro b hbe S ⟨hX, hnb, hab⟩
            have hb0 : b = ih_pl T := by omega
            refine s_iload_n C 3 dX2_exchangeFirstBetter_21 rfl ?_
            refine s_aload_n C 0 dX2_exchangeFirstBetter_22 rfl ?_
            refine s_getI C 2 3 (by decide) rfl (by decide) rfl (fun _ h => List.mem_cons_of_mem _ (List.mem_append_left _ (List.mem_append_left _ (List.mem_append_right _ h)))) (by decide) rfl (by decide +kernel) dX2_exchangeFirstBetter_23 ?_
            refine s_toe (ih_RX_pl hX hI) ?_
            refine s_icmp_geN 75 C dX2_exchangeFirstBetter_26 (by decide) (by omega) (by omega) (fun h26 => ?_) (fun h26 => ?_)
            · refine s_perm [0, 1, 2] rfl ?_
              subst hb0
              exact hx_21 _ ⟨hX, hnb, hab⟩
            · exfalso; omega
          | succ fu ih_21 =>
            intro b hbe S ⟨hX, hnb, hab⟩
            have hbl : b < ih_pl T := by omega
            have hp := hX.1
            refine s_iload_n C 3 dX2_exchangeFirstBetter_21 rfl ?_
            refine s_aload_n C 0 dX2_exchangeFirstBetter_22 rfl ?_
            refine s_getI C 2 3 (by decide) rfl (by decide) rfl (fun _ h => List.mem_cons_of_mem _ (List.mem_append_left _ (List.mem_append_left _ (List.mem_append_right _ h)))) (by decide) rfl (by decide +kernel) dX2_exchangeFirstBetter_23 ?_
            refine s_toe (ih_RX_pl hX hI) ?_
            refine s_icmp_geN 75 C dX2_exchangeFirstBetter_26 (by decide) (by omega) (by omega) (fun h26 => ?_) (fun h26 => ?_)
            · exfalso; omega
            · refine s_aload_n C 0 dX2_exchangeFirstBetter_29 rfl ?_
              refine s_getR C 2 2 (hp _ _ _ rfl) (by decide) rfl (by decide) rfl (fun _ h => List.mem_cons_of_mem _ (List.mem_append_left _ (List.mem_append_left _ (List.mem_append_right _ h)))) (by decide) rfl (by decide +kernel) dX2_exchangeFirstBetter_30 ?_
              refine s_iload_n C 2 dX2_exchangeFirstBetter_33 rfl ?_
              refine s_iaload C 9 (a) rfl rfl (by omega) (by decide) (by decide) rfl dX2_exchangeFirstBetter_34 ?_
              refine s_toe (b := T 5 (a)) (hX.2.2.2.2.2.2.1.2 (a) (by omega)) ?_
              refine s_aload_n C 0 dX2_exchangeFirstBetter_35 rfl ?_
              refine s_getR C 2 2 (hp _ _ _ rfl) (by decide) rfl (by decide) rfl (fun _ h => List.mem_cons_of_mem _ (List.mem_append_left _ (List.mem_append_left _ (List.mem_append_right _ h)))) (by decide) rfl (by decide +kernel) dX2_exchangeFirstBetter_36 ?_
              refine s_iload_n C 3 dX2_exchangeFirstBetter_39 rfl ?_
              refine s_iaload C 9 (b) rfl rfl (by omega) (by decide) (by decide) rfl dX2_exchangeFirstBetter_40 ?_
              refine s_toe (b := T 5 (b)) (hX.2.2.2.2.2.2.1.2 (b) (by omega)) ?_
              refine s_icmp_ne C 47 dX2_exchangeFirstBetter_41 (by decide) (fun h41 => ?_) (fun h41 => ?_)
              · refine s_aload_n C 0 dX2_exchangeFirstBetter_47 rfl ?_
                refine s_iload_n C 2 dX2_exchangeFirstBetter_48 rfl ?_
                refine s_iload_n C 3 dX2_exchangeFirstBetter_49 rfl ?_
                refine s_callVv 2 C (c_X2_exchange _ w _ T hX a b (by omega) (by omega)) gX2_exchangeFirstBetter_X2_exchange rfl (by decide +kernel) (by decide) (by decide) (by decide) rfl (by decide) rfl rfl rfl (Nat.le_of_ble_eq_true rfl) dX2_exchangeFirstBetter_50 ?_
                rintro S hX8
                have hIx := ih_xc_Inv hI (a := a) (b := b) (by omega) (by omega)
                refine s_aload_n C 0 dX2_exchangeFirstBetter_53 rfl ?_
                refine s_callVi 0 C (c_X2_rateNow _ w _ _ hX8 hIx (by rw [ih_xc_pl]; omega)) gX2_exchangeFirstBetter_X2_rateNow rfl (by decide +kernel) (by decide) (by decide) (by decide) rfl (by decide) rfl rfl rfl (Nat.le_of_ble_eq_true rfl) dX2_exchangeFirstBetter_54 ?_
                rintro rv S ⟨hrv, hX9⟩
                subst hrv
                have hrb1 := ih_rt_le hI hpl0
                have hrb2 := ih_rt_le hIx (by rw [ih_xc_pl]; omega)
                refine s_iload_n C 1 dX2_exchangeFirstBetter_57 rfl ?_
                refine s_icmp_leN 63 C dX2_exchangeFirstBetter_58 (by decide) (by omega) (by omega) (fun h58 => ?_) (fun h58 => ?_)
                · refine s_aload_n C 0 dX2_exchangeFirstBetter_63 rfl ?_
                  refine s_iload_n C 2 dX2_exchangeFirstBetter_64 rfl ?_
                  refine s_iload_n C 3 dX2_exchangeFirstBetter_65 rfl ?_
                  refine s_callVv 2 C (c_X2_exchange _ w _ _ hX9 a b (by omega) (by omega)) gX2_exchangeFirstBetter_X2_exchange rfl (by decide +kernel) (by decide) (by decide) (by decide) rfl (by decide) rfl rfl rfl (Nat.le_of_ble_eq_true rfl) dX2_exchangeFirstBetter_66 ?_
                  rintro S hX
                  rw [ih_xc_xc] at hX
                  refine s_iinc (u := nI (b + 1)) (lv' := [(3, .int (nI (b + 1))), (0, .ref (w.2.2 46)), (1, .int (nI (ih_rt T))), (2, .int (nI a))]) C 3 dX2_exchangeFirstBetter_69 rfl (ih_incN (by decide)) (by decide) rfl ?_
                  refine s_goto C 21 dX2_exchangeFirstBetter_72 (by decide) ?_
                  refine s_perm [1, 2, 3, 0] rfl ?_
                  exact ih_21 (b + 1) (by omega) _ ⟨hX, fun c d h1 h2 h3 => by
                    by_cases he : c = a ∧ d = b
                    · rw [he.1, he.2]; omega
                    · exact hnb c d h1 h2 (by omega), by omega⟩
                · refine s_iconst (v := nI 1) C dX2_exchangeFirstBetter_61 (by decide) ?_
                  rw [hQ]
                  exact s_zreturn C hA dX2_exchangeFirstBetter_62 (by decide) (Or.inl (ih_fb (ih_NB_f hnb hab (by omega) (by omega) (by omega)) hab (by omega) hX9))
              · refine s_goto C 69 dX2_exchangeFirstBetter_44 (by decide) ?_
                refine s_iinc (u := nI (b + 1)) (lv' := [(3, .int (nI (b + 1))), (0, .ref (w.2.2 46)), (1, .int (nI (ih_rt T))), (2, .int (nI a))]) C 3 dX2_exchangeFirstBetter_69 rfl (ih_incN (by decide)) (by decide) rfl ?_
                refine s_goto C 21 dX2_exchangeFirstBetter_72 (by decide) ?_
                refine s_perm [1, 2, 3, 0] rfl ?_
                exact ih_21 (b + 1) (by omega) _ ⟨hX, fun c d h1 h2 h3 => by
                  by_cases he : c = a ∧ d = b
                  · rw [he.1, he.2, ih_xc_same h41]; omega
                  · exact hnb c d h1 h2 (by omega), by omega⟩
        refine s_perm [1, 2, 3, 0] rfl ?_
        exact loop_21 (ih_pl T - (a + 1)) (a + 1) (by omega) _ ⟨hX, fun c d h1 h2 h3 => hnb c d h1 h2 (by omega), by omega⟩
  refine s_perm [2, 1, 0] rfl ?_
  exact loop_7 (ih_pl T - 1) 0 (by omega) _ ⟨hX, fun c d h1 h2 h3 => by omega⟩

set_option maxHeartbeats 4000000 in
set_option maxRecDepth 100000 in
theorem c_X2_exchangeWhileBetter (l : Launch) (w : ih_Wd) (S : ih_Sg) (T : ih_TT) (hX : ih_RX S T) (hI : ih_Inv T) (hpl0 : 0 < ih_pl T) : ih_Ci l yX2_exchangeWhileBetter wsX2_exchangeWhileBetter 5 w ih_shX [.ref (w.2.2 46)] S (fun r S' => r = nI (ih_fi (ih_stp T) 40) ∧ ih_RX S' (ih_it T (ih_fi (ih_stp T) 40))) := by
  refine ih_bodyi (ret := some .int) rfl rfl (Nat.le_of_ble_eq_true rfl) ?_
  intro x A hA C
  have C : ih_Ok x w A cX2_exchangeWhileBetter 2 RX2 wsX2_exchangeWhileBetter (ih_rm 5) (some .int) := C
  show ih_Mw x w ih_shX A (ih_Qi x w ih_shX A _) 2 0 0 0 [(0, .ref (w.2.2 46))] [] S
  obtain ⟨Q, hQ⟩ : ∃ Q, Q = ih_Qi x w ih_shX A (fun r S' => r = nI (ih_fi (ih_stp T) 40) ∧ ih_RX S' (ih_it T (ih_fi (ih_stp T) 40))) := ⟨_, rfl⟩
  rw [show ih_Qi x w ih_shX A _ = Q from hQ.symm]
  have hp := hX.1
  refine s_iconst (v := nI 0) C dX2_exchangeWhileBetter_0 (by decide) ?_
  refine s_istore_n (lv' := [(1, .int (nI 0)), (0, .ref (w.2.2 46))]) C dX2_exchangeWhileBetter_1 rfl (by decide) rfl ?_
  have loop_2 : ∀ (fu n : Nat), n + fu = 40 → ∀ S, (ih_RX S (ih_it T (n)) ∧ (∀ m, m < n → ih_stp T m = false)) → ih_Mw x w ih_shX A Q 2 0 0 2 [(0, .ref (w.2.2 46)), (1, .int (nI n))] [] S := by
    intro fu
    induction fu with
    | zero =>
      intro n hne S ⟨hX, hst⟩
      have hn0 : n = 40 := by omega
      subst hn0
      refine s_iload_n C 1 dX2_exchangeWhileBetter_2 rfl ?_
      refine s_bipush (v := nI 40) C dX2_exchangeWhileBetter_3 (by decide) ?_
      refine s_icmp_geN 21 C dX2_exchangeWhileBetter_5 (by decide) (by omega) (by omega) (fun h5 => ?_) (fun h5 => ?_)
      · refine s_iload_n C 1 dX2_exchangeWhileBetter_21 rfl ?_
        rw [hQ]
        exact s_ireturn C hA dX2_exchangeWhileBetter_22 ⟨by rw [ih_fi_no hst], by rw [ih_fi_no hst]; exact hX⟩
      · exfalso; omega
    | succ fu ih_2 =>
      intro n hne S ⟨hX, hst⟩
      have hnl : n < 40 := by omega
      obtain ⟨hIn, hpn⟩ := ih_it_Inv hI n hst
      refine s_iload_n C 1 dX2_exchangeWhileBetter_2 rfl ?_
      refine s_bipush (v := nI 40) C dX2_exchangeWhileBetter_3 (by decide) ?_
      refine s_icmp_geN 21 C dX2_exchangeWhileBetter_5 (by decide) (by omega) (by omega) (fun h5 => ?_) (fun h5 => ?_)
      · exfalso; omega
      · refine s_aload_n C 0 dX2_exchangeWhileBetter_8 rfl ?_
        refine s_callVi 0 C (c_X2_exchangeFirstBetter _ w _ (ih_it T n) hX hIn (by omega)) gX2_exchangeWhileBetter_X2_exchangeFirstBetter rfl (by decide +kernel) (by decide) (by decide) (by decide) rfl (by decide) rfl rfl rfl (Nat.le_of_ble_eq_true rfl) dX2_exchangeWhileBetter_9 ?_
        rintro rz S hrz
        rcases hrz with ⟨hfi, rfl, hX⟩ | ⟨hfi, rfl, hX⟩
        · refine s_if_eqN 21 C dX2_exchangeWhileBetter_12 (by decide) (by omega) (fun h12 => ?_) (fun h12 => ?_)
          · exact absurd h12 (by decide)
          · refine s_iinc (u := nI (n + 1)) (lv' := [(1, .int (nI (n + 1))), (0, .ref (w.2.2 46))]) C 1 dX2_exchangeWhileBetter_15 rfl (ih_incN (by decide)) (by decide) rfl ?_
            refine s_goto C 2 dX2_exchangeWhileBetter_18 (by decide) ?_
            refine s_perm [1, 0] rfl ?_
            rw [← ih_it_s] at hX
            refine ih_2 (n + 1) (by omega) _ ⟨hX, fun m hm => ?_⟩
            by_cases he : m = n
            · subst he; unfold ih_stp; rw [decide_eq_false_iff_not]; exact fun q => q hfi
            · exact hst m (by omega)
        · refine s_if_eqN 21 C dX2_exchangeWhileBetter_12 (by decide) (by omega) (fun h12 => ?_) (fun h12 => ?_)
          · refine s_iload_n C 1 dX2_exchangeWhileBetter_21 rfl ?_
            rw [hQ]
            exact s_ireturn C hA dX2_exchangeWhileBetter_22 ⟨by rw [ih_fi_eq (k := n) (by unfold ih_stp; rw [decide_eq_true_eq]; exact hfi) hst (by omega)], by rw [ih_fi_eq (k := n) (by unfold ih_stp; rw [decide_eq_true_eq]; exact hfi) hst (by omega)]; exact hX⟩
          · exact absurd h12 (by decide)
  refine s_perm [1, 0] rfl ?_
  exact loop_2 40 0 (by omega) _ ⟨hX, fun m hm => absurd hm (Nat.not_lt_zero m)⟩

set_option maxHeartbeats 4000000 in
set_option maxRecDepth 100000 in
theorem c_X7_swapped (l : Launch) (w : ih_Wd) (S : ih_Sg) (T : ih_TT) (hX : ih_RX S T) (hI : ih_Inv T) : ih_Ci l yX7_swapped wsX7_swapped 6 w ih_shX [.ref (w.2.2 0)] S (fun r S' => r = (sp_swapped T).1 ∧ ih_RX S' (sp_swapped T).2) := by
  refine ih_bodyi (ret := some .int) rfl rfl (Nat.le_of_ble_eq_true rfl) ?_
  intro x A hA C
  have C : ih_Ok x w A cX7_swapped 1 RX7 wsX7_swapped (ih_rm 6) (some .int) := C
  show ih_Mw x w ih_shX A (ih_Qi x w ih_shX A _) 1 0 0 0 [(0, .ref (w.2.2 0))] [] S
  have hct : ih_ct T ≤ 12 := hI.2.1.2.1
  have hp := hX.1
  have hpl9 : ih_pl T ≤ 9 := hI.2.2.1.2.1
  refine s_aload_n C 0 dX7_swapped_0 rfl ?_
  refine s_getR C 7 4 (hp _ _ _ rfl) (by decide) rfl (by decide) rfl (fun _ h => List.mem_cons_of_mem _ (List.mem_append_left _ (List.mem_append_left _ (List.mem_append_left _ (List.mem_append_right _ h))))) (by decide) rfl (by decide +kernel) dX7_swapped_1 ?_
  refine s_getI C 2 3 (by decide) rfl (by decide) rfl (fun _ h => List.mem_cons_of_mem _ (List.mem_append_left _ (List.mem_append_left _ (List.mem_append_right _ h)))) (by decide) rfl (by decide +kernel) dX7_swapped_4 ?_
  refine s_toe (ih_RX_pl hX hI) ?_
  refine s_if_neN 13 C dX7_swapped_7 (by decide) (by omega) (fun h7 => ?_) (fun h7 => ?_)
  · refine s_aload_n C 0 dX7_swapped_13 rfl ?_
    refine s_getR C 7 4 (hp _ _ _ rfl) (by decide) rfl (by decide) rfl (fun _ h => List.mem_cons_of_mem _ (List.mem_append_left _ (List.mem_append_left _ (List.mem_append_left _ (List.mem_append_right _ h))))) (by decide) rfl (by decide +kernel) dX7_swapped_14 ?_
    refine s_callVi 0 C (c_X2_exchangeWhileBetter _ w _ T hX hI (by omega)) gX7_swapped_X2_exchangeWhileBetter rfl (by decide +kernel) (by decide) (by decide) (by decide) rfl (by decide) rfl rfl rfl (Nat.le_of_ble_eq_true rfl) dX7_swapped_17 ?_
    rintro rr S ⟨hrr, hX⟩
    exact s_ireturn C hA dX7_swapped_20 (by rw [sp_swapped, if_neg (by omega)]; generalize ih_fi (ih_stp T) 40 = q at hrr hX ⊢; exact ⟨hrr, hX⟩)
  · refine s_ldc (v := (-1000002)) C (by decide +kernel) dX7_swapped_10 ?_
    exact s_ireturn C hA dX7_swapped_12 (by rw [sp_swapped, if_pos (by omega)]; exact ⟨rfl, hX⟩)

