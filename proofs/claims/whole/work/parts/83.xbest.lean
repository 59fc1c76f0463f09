set_option maxHeartbeats 4000000 in
set_option maxRecDepth 100000 in
theorem c_X8_best_no (l : Launch) (w : ih_Wd) (S : ih_Sg) (T : ih_TT) (hM : ih_RM S T) (hI : ih_Inv T) (hno : ih_pl T = 0 ∨ 6 < ih_pl T) : ih_Ci l yX8_best wsX8_best 4 w ih_shM [.ref (w.2.2 0)] S (fun r S' => r = (sp_best T).1 ∧ ∃ Bq : Nat → Int32, ih_RM S' (ih_w8 (sp_best T).2 Bq)) := by
  refine ih_bodyi (ret := some .int) rfl rfl (Nat.le_of_ble_eq_true rfl) ?_
  intro x A hA C
  have C : ih_Ok x w A cX8_best 5 RX8 wsX8_best (ih_rm 4) (some .int) := C
  show ih_Mw x w ih_shM A (ih_Qi x w ih_shM A _) 5 0 0 0 [(0, .ref (w.2.2 0))] [] S
  have hpl9 : ih_pl T ≤ 9 := hI.2.2.1.2.1
  refine s_aload_n C 0 dX8_best_0 rfl ?_
  refine s_iconst (v := nI 0) C dX8_best_1 (by decide) ?_
  refine s_putI (ty := .int) C 8 0 tyX8 tyX8_ok nmX8 (by decide) rfl (by decide) rfl (fun _ h => List.mem_cons_of_mem _ (List.mem_append_right _ h)) (by decide) rfl (by decide +kernel) rfl (by decide +kernel) rfl rfl dX8_best_2 ?_
  refine m_hide hM rfl (fun S hM => ?_)
  refine s_aload_n C 0 dX8_best_5 rfl ?_
  refine s_getI C 8 7 (by decide) rfl (by decide) rfl (fun _ h => List.mem_cons_of_mem _ (List.mem_append_right _ h)) (by decide) rfl (by decide +kernel) dX8_best_6 ?_
  refine s_toe (b := T 0 7) (hM.2 _ _ rfl) ?_
  refine s_toe (b := nI (ih_pl T)) hI.2.2.1.1 ?_
  refine s_if_eqN 21 C dX8_best_9 (by decide) (by omega) (fun h9 => ?_) (fun h9 => ?_)
  · refine s_ldc (v := (-1000002)) C (by decide +kernel) dX8_best_21 ?_
    exact s_ireturn C hA dX8_best_23 (by rw [sp_best, if_pos (by omega)]; exact ⟨rfl, T 8, by rw [ih_w8_self]; exact hM⟩)
  · refine s_aload_n C 0 dX8_best_12 rfl ?_
    refine s_getI C 8 7 (by decide) rfl (by decide) rfl (fun _ h => List.mem_cons_of_mem _ (List.mem_append_right _ h)) (by decide) rfl (by decide +kernel) dX8_best_13 ?_
    refine s_toe (b := T 0 7) (hM.2 _ _ rfl) ?_
    refine s_toe (b := nI (ih_pl T)) hI.2.2.1.1 ?_
    refine s_bipush (v := nI 6) C dX8_best_16 (by decide) ?_
    refine s_icmp_leN 24 C dX8_best_18 (by decide) (by omega) (by omega) (fun h18 => ?_) (fun h18 => ?_)
    · exfalso; omega
    · refine s_ldc (v := (-1000002)) C (by decide +kernel) dX8_best_21 ?_
      exact s_ireturn C hA dX8_best_23 (by rw [sp_best, if_pos (by omega)]; exact ⟨rfl, T 8, by rw [ih_w8_self]; exact hM⟩)

/-- best of the reference -/
theorem c_X8_best (l : Launch) (w : ih_Wd) (S : ih_Sg) (T : ih_TT) (hM : ih_RM S T) (hI : ih_Inv T) : ih_Ci l yX8_best wsX8_best 4 w ih_shM [.ref (w.2.2 0)] S (fun r S' => r = (sp_best T).1 ∧ ∃ Bq : Nat → Int32, ih_RM S' (ih_w8 (sp_best T).2 Bq)) := by
  by_cases h : ih_pl T = 0 ∨ 6 < ih_pl T
  · exact c_X8_best_no l w S T hM hI h
  · obtain ⟨N, h1, h2, h3, h4, h5⟩ := ih_fin hI (by omega) (by omega)
    exact c_X8_best_open l w S T hM hI N h2 h3 h4
theorem ih_so_end {T : ih_TT} {pl : Nat} (h : 0 < pl) : ih_so T pl (pl - 1) = ih_so T pl pl := by
  obtain ⟨q, rfl⟩ : ∃ q, pl = q + 1 := ⟨pl - 1, by omega⟩
  show ih_so T (q + 1) q = ih_si (ih_so T (q + 1) q) q (q + 1 - (q + 1))
  rw [Nat.sub_self]; rfl
set_option maxHeartbeats 4000000 in
set_option maxRecDepth 100000 in
theorem c_X2_sortRow (l : Launch) (w : ih_Wd) (S : ih_Sg) (T : ih_TT) (hX : ih_RX S T) (hI : ih_Inv T) (hpl0 : 0 < ih_pl T) : ih_Cv l yX2_sortRow wsX2_sortRow 1 w ih_shX [.ref (w.2.2 46)] S (fun S' => ih_RX S' (ih_Ts T)) := by
  refine ih_bodyv (ret := none) rfl rfl (Nat.le_of_ble_eq_true rfl) ?_
  intro x A hA C
  have C : ih_Ok x w A cX2_sortRow 3 RX2 wsX2_sortRow (ih_rm 1) (none) := C
  show ih_Mw x w ih_shX A (ih_Qv x w ih_shX A _) 3 0 0 0 [(0, .ref (w.2.2 46))] [] S
  obtain ⟨Q, hQ⟩ : ∃ Q, Q = ih_Qv x w ih_shX A (fun S' => ih_RX S' (ih_Ts T)) := ⟨_, rfl⟩
  rw [show ih_Qv x w ih_shX A _ = Q from hQ.symm]
  have hp := hX.1
  have hpl9 : ih_pl T ≤ 9 := hI.2.2.1.2.1
  refine s_iconst (v := nI 0) C dX2_sortRow_0 (by decide) ?_
  refine s_istore_n (lv' := [(1, .int (nI 0)), (0, .ref (w.2.2 46))]) C dX2_sortRow_1 rfl (by decide) rfl ?_
  have hx_2 : ∀ S, ih_RX S (ih_so T (ih_pl T) (ih_pl T - 1)) → ih_Mw x w ih_shX A Q 3 0 0 57 [(0, .ref (w.2.2 46))] [] S := by
    intro S hX
    rw [hQ]
    exact s_vreturn C hA dX2_sortRow_57 (by unfold ih_Ts; rw [← ih_so_end hpl0]; exact hX)
  have loop_2 : ∀ (fu a : Nat), a + fu = ih_pl T - 1 → ∀ S, ih_RX S (ih_so T (ih_pl T) (a)) → ih_Mw x w ih_shX A Q 3 0 0 2 [(0, .ref (w.2.2 46)), (1, .int (nI a))] [] S := by
    intro fu
    induction fu with
    | zero =>
      intro a hae S hX
      have ha0 : a = ih_pl T - 1 := by omega
      obtain ⟨hIa, hpa⟩ := ih_so_I hI a (by omega)
      have hp := hX.1
      refine s_iload_n C 1 dX2_sortRow_2 rfl ?_
      refine s_aload_n C 0 dX2_sortRow_3 rfl ?_
      refine s_getI C 2 3 (by decide) rfl (by decide) rfl (fun _ h => List.mem_cons_of_mem _ (List.mem_append_right _ h)) (by decide) rfl (by decide +kernel) dX2_sortRow_4 ?_
      refine s_toe (b := nI (ih_pl T)) (hX.2.2.2.2.2.2.1.1.trans (hIa.2.2.1.1.trans (congrArg nI hpa))) ?_
      refine s_iconst (v := nI 1) C dX2_sortRow_7 (by decide) ?_
      refine s_isubN C dX2_sortRow_8 (by omega) ?_
      refine s_icmp_geN 57 C dX2_sortRow_9 (by decide) (by omega) (by omega) (fun h9 => ?_) (fun h9 => ?_)
      · refine s_perm [0] rfl ?_
        subst ha0
        exact hx_2 _ hX
      · exfalso; omega
    | succ fu ih_2 =>
      intro a hae S hX
      have hal : a < ih_pl T - 1 := by omega
      obtain ⟨hIa, hpa⟩ := ih_so_I hI a (by omega)
      have hp := hX.1
      refine s_iload_n C 1 dX2_sortRow_2 rfl ?_
      refine s_aload_n C 0 dX2_sortRow_3 rfl ?_
      refine s_getI C 2 3 (by decide) rfl (by decide) rfl (fun _ h => List.mem_cons_of_mem _ (List.mem_append_right _ h)) (by decide) rfl (by decide +kernel) dX2_sortRow_4 ?_
      refine s_toe (b := nI (ih_pl T)) (hX.2.2.2.2.2.2.1.1.trans (hIa.2.2.1.1.trans (congrArg nI hpa))) ?_
      refine s_iconst (v := nI 1) C dX2_sortRow_7 (by decide) ?_
      refine s_isubN C dX2_sortRow_8 (by omega) ?_
      refine s_icmp_geN 57 C dX2_sortRow_9 (by decide) (by omega) (by omega) (fun h9 => ?_) (fun h9 => ?_)
      · exfalso; omega
      · refine s_iload_n C 1 dX2_sortRow_12 rfl ?_
        refine s_iconst (v := nI 1) C dX2_sortRow_13 (by decide) ?_
        refine s_iaddN C dX2_sortRow_14 ?_
        refine s_istore_n (lv' := [(2, .int (nI (a + 1))), (0, .ref (w.2.2 46)), (1, .int (nI a))]) C dX2_sortRow_15 rfl (by decide) rfl ?_
        have hx_16 : ∀ S, (ih_RX S (ih_si (ih_so T (ih_pl T) a) a (ih_pl T - (a + 1))) ∧ a < ih_pl T) → ih_Mw x w ih_shX A Q 3 0 0 51 [(0, .ref (w.2.2 46)), (1, .int (nI a))] [] S := by
          intro S ⟨hX, hab⟩
          refine s_iinc (u := nI (a + 1)) (lv' := [(1, .int (nI (a + 1))), (0, .ref (w.2.2 46))]) C 1 dX2_sortRow_51 rfl (ih_incN (by decide)) (by decide) rfl ?_
          refine s_goto C 2 dX2_sortRow_54 (by decide) ?_
          refine s_perm [1, 0] rfl ?_
          exact ih_2 (a + 1) (by omega) _ hX
        have loop_16 : ∀ (fu b : Nat), b + fu = ih_pl T → ∀ S, (ih_RX S (ih_si (ih_so T (ih_pl T) a) a (b - (a + 1))) ∧ a < b) → ih_Mw x w ih_shX A Q 3 0 0 16 [(0, .ref (w.2.2 46)), (1, .int (nI a)), (2, .int (nI b))] [] S := by
          intro fu
          induction fu with
          | zero =>
            intro b hbe S ⟨hX, hab⟩
            have hb0 : b = ih_pl T := by omega
            obtain ⟨hIb, hpb⟩ := ih_si_I hIa (a := a) (by omega) (b - (a + 1)) (by omega)
            rw [hpa] at hpb
            have hp := hX.1
            refine s_iload_n C 2 dX2_sortRow_16 rfl ?_
            refine s_aload_n C 0 dX2_sortRow_17 rfl ?_
            refine s_getI C 2 3 (by decide) rfl (by decide) rfl (fun _ h => List.mem_cons_of_mem _ (List.mem_append_right _ h)) (by decide) rfl (by decide +kernel) dX2_sortRow_18 ?_
            refine s_toe (b := nI (ih_pl T)) (hX.2.2.2.2.2.2.1.1.trans (hIb.2.2.1.1.trans (congrArg nI hpb))) ?_
            refine s_icmp_geN 51 C dX2_sortRow_21 (by decide) (by omega) (by omega) (fun h21 => ?_) (fun h21 => ?_)
            · refine s_perm [0, 1] rfl ?_
              subst hb0
              exact hx_16 _ ⟨hX, hab⟩
            · exfalso; omega
          | succ fu ih_16 =>
            intro b hbe S ⟨hX, hab⟩
            have hbl : b < ih_pl T := by omega
            obtain ⟨hIb, hpb⟩ := ih_si_I hIa (a := a) (by omega) (b - (a + 1)) (by omega)
            rw [hpa] at hpb
            have hp := hX.1
            refine s_iload_n C 2 dX2_sortRow_16 rfl ?_
            refine s_aload_n C 0 dX2_sortRow_17 rfl ?_
            refine s_getI C 2 3 (by decide) rfl (by decide) rfl (fun _ h => List.mem_cons_of_mem _ (List.mem_append_right _ h)) (by decide) rfl (by decide +kernel) dX2_sortRow_18 ?_
            refine s_toe (b := nI (ih_pl T)) (hX.2.2.2.2.2.2.1.1.trans (hIb.2.2.1.1.trans (congrArg nI hpb))) ?_
            refine s_icmp_geN 51 C dX2_sortRow_21 (by decide) (by omega) (by omega) (fun h21 => ?_) (fun h21 => ?_)
            · exfalso; omega
            · refine s_aload_n C 0 dX2_sortRow_24 rfl ?_
              refine s_getR C 2 2 (hp _ _ _ rfl) (by decide) rfl (by decide) rfl (fun _ h => List.mem_cons_of_mem _ (List.mem_append_right _ h)) (by decide) rfl (by decide +kernel) dX2_sortRow_25 ?_
              refine s_iload_n C 2 dX2_sortRow_28 rfl ?_
              refine s_iaload C 9 (b) rfl rfl (by omega) (by decide) (by decide) rfl dX2_sortRow_29 ?_
              refine s_toe (b := nI (ih_or (ih_si (ih_so T (ih_pl T) a) a (b - (a + 1))) (b))) ((hX.2.2.2.2.2.2.1.2 (b) (by omega)).trans (hIb.2.2.1.2.2 (b) (by omega)).1) ?_
              have hob29 := (hIb.2.2.1.2.2 (b) (by omega)).2
              have hct29 := hIb.2.1.2.1
              refine s_aload_n C 0 dX2_sortRow_30 rfl ?_
              refine s_getR C 2 2 (hp _ _ _ rfl) (by decide) rfl (by decide) rfl (fun _ h => List.mem_cons_of_mem _ (List.mem_append_right _ h)) (by decide) rfl (by decide +kernel) dX2_sortRow_31 ?_
              refine s_iload_n C 1 dX2_sortRow_34 rfl ?_
              refine s_iaload C 9 (a) rfl rfl (by omega) (by decide) (by decide) rfl dX2_sortRow_35 ?_
              refine s_toe (b := nI (ih_or (ih_si (ih_so T (ih_pl T) a) a (b - (a + 1))) (a))) ((hX.2.2.2.2.2.2.1.2 (a) (by omega)).trans (hIb.2.2.1.2.2 (a) (by omega)).1) ?_
              have hob35 := (hIb.2.2.1.2.2 (a) (by omega)).2
              have hct35 := hIb.2.1.2.1
              refine s_icmp_geN 45 C dX2_sortRow_36 (by decide) (by omega) (by omega) (fun h36 => ?_) (fun h36 => ?_)
              · refine s_iinc (u := nI (b + 1)) (lv' := [(2, .int (nI (b + 1))), (0, .ref (w.2.2 46)), (1, .int (nI a))]) C 2 dX2_sortRow_45 rfl (ih_incN (by decide)) (by decide) rfl ?_
                refine s_goto C 16 dX2_sortRow_48 (by decide) ?_
                refine s_perm [1, 2, 0] rfl ?_
                exact ih_16 (b + 1) (by omega) _ ⟨by rw [ih_si_s hab, ih_sb1]; first | (rw [if_pos (by omega)]; exact hX) | (rw [if_neg (by omega)]; exact hX), by omega⟩
              · refine s_aload_n C 0 dX2_sortRow_39 rfl ?_
                refine s_iload_n C 1 dX2_sortRow_40 rfl ?_
                refine s_iload_n C 2 dX2_sortRow_41 rfl ?_
                refine s_callVv 2 C (c_X2_exchange _ w _ _ hX a b (by omega) (by omega)) gX2_sortRow_X2_exchange rfl (by decide +kernel) (by decide) (by decide) (by decide) rfl (by decide) rfl rfl rfl (Nat.le_of_ble_eq_true rfl) dX2_sortRow_42 ?_
                rintro S hX
                refine s_iinc (u := nI (b + 1)) (lv' := [(2, .int (nI (b + 1))), (0, .ref (w.2.2 46)), (1, .int (nI a))]) C 2 dX2_sortRow_45 rfl (ih_incN (by decide)) (by decide) rfl ?_
                refine s_goto C 16 dX2_sortRow_48 (by decide) ?_
                refine s_perm [1, 2, 0] rfl ?_
                exact ih_16 (b + 1) (by omega) _ ⟨by rw [ih_si_s hab, ih_sb1]; first | (rw [if_pos (by omega)]; exact hX) | (rw [if_neg (by omega)]; exact hX), by omega⟩
        refine s_perm [1, 2, 0] rfl ?_
        exact loop_16 (ih_pl T - (a + 1)) (a + 1) (by omega) _ ⟨by rw [Nat.sub_self]; exact hX, by omega⟩
  refine s_perm [1, 0] rfl ?_
  exact loop_2 (ih_pl T - 1) 0 (by omega) _ hX

set_option maxHeartbeats 4000000 in
set_option maxRecDepth 100000 in
theorem c_X2_halves (l : Launch) (w : ih_Wd) (Sb0 : ih_Sg) (T : ih_TT) (hX : ih_RX Sb0 T) (hI : ih_Inv T) : ih_Ci l yX2_halvesWereMetExchanged wsX2_halvesWereMetExchanged 0 w ih_shX [.ref (w.2.2 46)] Sb0 (fun r S' => r = nI (bif rf_hm (ih_or T) (ih_pl T) then 1 else 0) ∧ S' = Sb0) := by
  refine ih_bodyi (ret := some .boolean) rfl rfl (Nat.le_of_ble_eq_true rfl) ?_
  intro x A hA C
  have C : ih_Ok x w A cX2_halvesWereMetExchanged 3 RX2 wsX2_halvesWereMetExchanged (ih_rm 0) (some .boolean) := C
  show ih_Mw x w ih_shX A (ih_Qi x w ih_shX A _) 3 0 0 0 [(0, .ref (w.2.2 46))] [] Sb0
  obtain ⟨Q, hQ⟩ : ∃ Q, Q = ih_Qi x w ih_shX A (fun r S' => r = nI (bif rf_hm (ih_or T) (ih_pl T) then 1 else 0) ∧ S' = Sb0) := ⟨_, rfl⟩
  rw [show ih_Qi x w ih_shX A _ = Q from hQ.symm]
  have hp := hX.1
  have hpl9 : ih_pl T ≤ 9 := hI.2.2.1.2.1
  have hct : ih_ct T ≤ 12 := hI.2.1.2.1
  have hor : ∀ p, p < ih_pl T → ih_or T p < 12 := fun p hp => by have := (hI.2.2.1.2.2 p hp).2; omega
  refine s_aload_n C 0 dX2_halvesWereMetExchanged_0 rfl ?_
  refine s_getI C 2 3 (by decide) rfl (by decide) rfl (fun _ h => List.mem_cons_of_mem _ (List.mem_append_right _ h)) (by decide) rfl (by decide +kernel) dX2_halvesWereMetExchanged_1 ?_
  refine s_toe (ih_RX_pl hX hI) ?_
  refine s_iconst (v := nI 2) C dX2_halvesWereMetExchanged_4 (by decide) ?_
  refine s_idivN C dX2_halvesWereMetExchanged_5 (by omega) (by omega) (by omega) ?_
  refine s_istore_n (lv' := [(1, .int (nI ((ih_pl T) / 2))), (0, .ref (w.2.2 46))]) C dX2_halvesWereMetExchanged_6 rfl (by decide) rfl ?_
  refine s_iload_n C 0 dX2_halvesWereMetExchanged_7 rfl ?_
  refine s_iconst (v := nI 2) C dX2_halvesWereMetExchanged_8 (by decide) ?_
  refine s_imulN C dX2_halvesWereMetExchanged_9 ?_
  refine s_aload_n C 1 dX2_halvesWereMetExchanged_10 rfl ?_
  refine s_getI C 2 3 (by decide) rfl (by decide) rfl (fun _ h => List.mem_cons_of_mem _ (List.mem_append_right _ h)) (by decide) rfl (by decide +kernel) dX2_halvesWereMetExchanged_11 ?_
  refine s_toe (ih_RX_pl hX hI) ?_
  refine s_icmp_eqN 19 C dX2_halvesWereMetExchanged_14 (by decide) (by omega) (by omega) (fun h14 => ?_) (fun h14 => ?_)
  · refine s_iconst (v := nI 0) C dX2_halvesWereMetExchanged_19 (by decide) ?_
    refine s_istore_n (lv' := [(2, .int (nI 0)), (1, .int (nI ((ih_pl T) / 2))), (0, .ref (w.2.2 46))]) C dX2_halvesWereMetExchanged_20 rfl (by decide) rfl ?_
    have loop_21 : ∀ (fu a : Nat), a + fu = ih_pl T / 2 → ∀ S, (S = Sb0 ∧ rf_hs (ih_or T) (ih_pl T / 2) (ih_pl T / 2) = rf_hs (ih_or T) (ih_pl T / 2) (ih_pl T / 2 - (a))) → ih_Mw x w ih_shX A Q 3 0 0 21 [(0, .ref (w.2.2 46)), (1, .int (nI (ih_pl T / 2))), (2, .int (nI a))] [] S := by
      intro fu
      induction fu with
      | zero =>
        intro a hae S ⟨hSS, hhs⟩
        have ha0 : a = ih_pl T / 2 := by omega
        obtain rfl := hSS.symm
        refine s_iload_n C 2 dX2_halvesWereMetExchanged_21 rfl ?_
        refine s_iload_n C 1 dX2_halvesWereMetExchanged_22 rfl ?_
        refine s_icmp_geN 72 C dX2_halvesWereMetExchanged_23 (by decide) (by omega) (by omega) (fun h23 => ?_) (fun h23 => ?_)
        · refine s_iconst (v := nI 0) C dX2_halvesWereMetExchanged_72 (by decide) ?_
          rw [hQ]
          exact s_zreturn C hA dX2_halvesWereMetExchanged_73 (by decide) ⟨(by unfold rf_hm; rw [if_pos (by omega), hhs, ha0, Nat.sub_self]; rfl), rfl⟩
        · exfalso; omega
      | succ fu ih_21 =>
        intro a hae S ⟨hSS, hhs⟩
        have hal : a < ih_pl T / 2 := by omega
        obtain rfl := hSS.symm
        refine s_iload_n C 2 dX2_halvesWereMetExchanged_21 rfl ?_
        refine s_iload_n C 1 dX2_halvesWereMetExchanged_22 rfl ?_
        refine s_icmp_geN 72 C dX2_halvesWereMetExchanged_23 (by decide) (by omega) (by omega) (fun h23 => ?_) (fun h23 => ?_)
        · exfalso; omega
        · refine s_aload_n C 0 dX2_halvesWereMetExchanged_26 rfl ?_
          refine s_getR C 2 2 (hp _ _ _ rfl) (by decide) rfl (by decide) rfl (fun _ h => List.mem_cons_of_mem _ (List.mem_append_right _ h)) (by decide) rfl (by decide +kernel) dX2_halvesWereMetExchanged_27 ?_
          refine s_iload_n C 2 dX2_halvesWereMetExchanged_30 rfl ?_
          refine s_iaload C 9 (a) rfl rfl (by omega) (by decide) (by decide) rfl dX2_halvesWereMetExchanged_31 ?_
          refine s_toe (b := nI (ih_or T (a))) ((hX.2.2.2.2.2.2.1.2 (a) (by omega)).trans (hI.2.2.1.2.2 (a) (by omega)).1) ?_
          have hob31 := hor (a) (by omega)
          refine s_aload_n C 0 dX2_halvesWereMetExchanged_32 rfl ?_
          refine s_getR C 2 2 (hp _ _ _ rfl) (by decide) rfl (by decide) rfl (fun _ h => List.mem_cons_of_mem _ (List.mem_append_right _ h)) (by decide) rfl (by decide +kernel) dX2_halvesWereMetExchanged_33 ?_
          refine s_iload_n C 2 dX2_halvesWereMetExchanged_36 rfl ?_
          refine s_iload_n C 1 dX2_halvesWereMetExchanged_37 rfl ?_
          refine s_iaddN C dX2_halvesWereMetExchanged_38 ?_
          refine s_iaload C 9 (a + (ih_pl T / 2)) rfl rfl (by omega) (by decide) (by decide) rfl dX2_halvesWereMetExchanged_39 ?_
          refine s_toe (b := nI (ih_or T (a + (ih_pl T / 2)))) ((hX.2.2.2.2.2.2.1.2 (a + (ih_pl T / 2)) (by omega)).trans (hI.2.2.1.2.2 (a + (ih_pl T / 2)) (by omega)).1) ?_
          have hob39 := hor (a + (ih_pl T / 2)) (by omega)
          refine s_icmp_eqN 66 C dX2_halvesWereMetExchanged_40 (by decide) (by omega) (by omega) (fun h40 => ?_) (fun h40 => ?_)
          · refine s_iinc (u := nI (a + 1)) (lv' := [(2, .int (nI (a + 1))), (0, .ref (w.2.2 46)), (1, .int (nI (ih_pl T / 2)))]) C 2 dX2_halvesWereMetExchanged_66 rfl (ih_incN (by decide)) (by decide) rfl ?_
            refine s_goto C 21 dX2_halvesWereMetExchanged_69 (by decide) ?_
            refine s_perm [1, 2, 0] rfl ?_
            refine ih_21 (a + 1) (by omega) _ ⟨rfl, ?_⟩
            rw [hhs, show ih_pl T / 2 - a = (ih_pl T / 2 - (a + 1)) + 1 by omega, rf_hs, show ih_pl T / 2 - (ih_pl T / 2 - (a + 1) + 1) = a by omega, if_pos h40]
          · refine s_aload_n C 0 dX2_halvesWereMetExchanged_43 rfl ?_
            refine s_getR C 2 2 (hp _ _ _ rfl) (by decide) rfl (by decide) rfl (fun _ h => List.mem_cons_of_mem _ (List.mem_append_right _ h)) (by decide) rfl (by decide +kernel) dX2_halvesWereMetExchanged_44 ?_
            refine s_iload_n C 2 dX2_halvesWereMetExchanged_47 rfl ?_
            refine s_iload_n C 1 dX2_halvesWereMetExchanged_48 rfl ?_
            refine s_iaddN C dX2_halvesWereMetExchanged_49 ?_
            refine s_iaload C 9 (a + (ih_pl T / 2)) rfl rfl (by omega) (by decide) (by decide) rfl dX2_halvesWereMetExchanged_50 ?_
            refine s_toe (b := nI (ih_or T (a + (ih_pl T / 2)))) ((hX.2.2.2.2.2.2.1.2 (a + (ih_pl T / 2)) (by omega)).trans (hI.2.2.1.2.2 (a + (ih_pl T / 2)) (by omega)).1) ?_
            have hob50 := hor (a + (ih_pl T / 2)) (by omega)
            refine s_aload_n C 0 dX2_halvesWereMetExchanged_51 rfl ?_
            refine s_getR C 2 2 (hp _ _ _ rfl) (by decide) rfl (by decide) rfl (fun _ h => List.mem_cons_of_mem _ (List.mem_append_right _ h)) (by decide) rfl (by decide +kernel) dX2_halvesWereMetExchanged_52 ?_
            refine s_iload_n C 2 dX2_halvesWereMetExchanged_55 rfl ?_
            refine s_iaload C 9 (a) rfl rfl (by omega) (by decide) (by decide) rfl dX2_halvesWereMetExchanged_56 ?_
            refine s_toe (b := nI (ih_or T (a))) ((hX.2.2.2.2.2.2.1.2 (a) (by omega)).trans (hI.2.2.1.2.2 (a) (by omega)).1) ?_
            have hob56 := hor (a) (by omega)
            refine s_icmp_geN 64 C dX2_halvesWereMetExchanged_57 (by decide) (by omega) (by omega) (fun h57 => ?_) (fun h57 => ?_)
            · refine s_iconst (v := nI 0) C dX2_halvesWereMetExchanged_64 (by decide) ?_
              rw [hQ]
              exact s_zreturn C hA dX2_halvesWereMetExchanged_65 (by decide) ⟨(by unfold rf_hm; rw [if_pos (by omega), hhs, show ih_pl T / 2 - a = (ih_pl T / 2 - (a + 1)) + 1 by omega, rf_hs, show ih_pl T / 2 - (ih_pl T / 2 - (a + 1) + 1) = a by omega, if_neg h40, decide_eq_false (by omega)]; rfl), rfl⟩
            · refine s_iconst (v := nI 1) C dX2_halvesWereMetExchanged_60 (by decide) ?_
              refine s_goto C 65 dX2_halvesWereMetExchanged_61 (by decide) ?_
              rw [hQ]
              exact s_zreturn C hA dX2_halvesWereMetExchanged_65 (by decide) ⟨(by unfold rf_hm; rw [if_pos (by omega), hhs, show ih_pl T / 2 - a = (ih_pl T / 2 - (a + 1)) + 1 by omega, rf_hs, show ih_pl T / 2 - (ih_pl T / 2 - (a + 1) + 1) = a by omega, if_neg h40, decide_eq_true (by omega)]; rfl), rfl⟩
    refine s_perm [2, 1, 0] rfl ?_
    exact loop_21 (ih_pl T / 2) 0 (by omega) _ ⟨rfl, rfl⟩
  · refine s_iconst (v := nI 0) C dX2_halvesWereMetExchanged_17 (by decide) ?_
    rw [hQ]
    exact s_zreturn C hA dX2_halvesWereMetExchanged_18 (by decide) ⟨(by unfold rf_hm; rw [if_neg (by omega)]; rfl), rfl⟩

theorem ih_RX_48 {S : ih_Sg} {T : ih_TT} (h : ih_RX S T) (g : Nat → Int32) : ih_RX (ih_sA S 48 g) T :=
  ih_RX_oo h h.1 h.2.1 (fun k h1 h2 => ih_sA_row (by omega)) (by rw [ih_sA_row (by decide)]) (by unfold rx_o; rw [ih_sA_row (by decide), ih_sA_row (by decide)]; exact h.2.2.2.2.2.2.1) (fun _ _ _ _ => rfl) rfl rfl rfl
theorem ih_RX_47 {S : ih_Sg} {T U : ih_TT} (h : ih_RX S T) (g : Nat → Int32) (hg : ∀ j, j < 9 → g j = U 5 j) (hU : ∀ k, k ≠ 5 → U k = T k) : ih_RX (ih_sA S 47 g) U := by
  refine ih_RX_oo h h.1 h.2.1 (fun k h1 h2 => ih_sA_row (by omega)) (by rw [ih_sA_row (by decide)]) ⟨?_, fun j hj => ?_⟩ (fun k h1 h2 h3 => hU k h2) (by rw [hU 0 (by decide)]) (by rw [hU 0 (by decide)]) (by rw [hU 0 (by decide)])
  · rw [ih_sA_row (by decide), hU 0 (by decide)]; exact h.2.2.2.2.2.2.1.1
  · rw [ih_sA_s]; exact hg j hj
theorem ih_bi_skip {T : ih_TT} {n m : Nat} (hm : m < n) (h : ih_rt (ih_pn T m) = ih_rt (ih_pn T n)) : 0 < n ∧ ih_bi T n = ih_bi T (n - 1) ∧ ih_mo T n = ih_mo T (n + 1) := by
  obtain ⟨q, rfl⟩ : ∃ q, n = q + 1 := ⟨n - 1, by omega⟩
  have h1 := ih_bi_max (T := T) q m (by omega)
  have e : ih_bi T (q + 1) = ih_bi T q := by rw [ih_bi, if_neg (by omega)]
  refine ⟨by omega, e, ?_⟩
  show nI (ih_rt (ih_pn T (ih_bi T q))) = nI (ih_rt (ih_pn T (ih_bi T (q + 1))))
  rw [e]
set_option maxHeartbeats 4000000 in
set_option maxRecDepth 100000 in
theorem c_X2_becomeBest (l : Launch) (w : ih_Wd) (S : ih_Sg) (T : ih_TT) (hX : ih_RX S T) (hI : ih_Inv T) (hpl0 : 0 < ih_pl T) (hpl6 : ih_pl T ≤ 6) (Nn : Nat) (hN720 : Nn < 720) (hNn : ih_N (ih_Ts T) = Nn) (hN1 : ∀ m, m < Nn → ¬ ih_q (ih_pn (ih_Ts T) m) = 0) (hN2 : ih_q (ih_pn (ih_Ts T) Nn) = 0) (hH : ∀ n, n ≤ Nn → rf_hm (ih_or (ih_pn (ih_Ts T) n)) (ih_pl T) = true → ∃ m, m < n ∧ ih_rt (ih_pn (ih_Ts T) m) = ih_rt (ih_pn (ih_Ts T) n)) : ih_Ci l yX2_becomeBest wsX2_becomeBest 4 w ih_shX [.ref (w.2.2 46)] S (fun r S' => r = nI (ih_rt (ih_bst T)) ∧ ih_RX S' (ih_bst T)) := by
  refine ih_bodyi (ret := some .int) rfl rfl (Nat.le_of_ble_eq_true rfl) ?_
  intro x A hA C
  have C : ih_Ok x w A cX2_becomeBest 4 RX2 wsX2_becomeBest (ih_rm 4) (some .int) := C
  show ih_Mw x w ih_shX A (ih_Qi x w ih_shX A _) 4 0 0 0 [(0, .ref (w.2.2 46))] [] S
  obtain ⟨Q, hQ⟩ : ∃ Q, Q = ih_Qi x w ih_shX A (fun r S' => r = nI (ih_rt (ih_bst T)) ∧ ih_RX S' (ih_bst T)) := ⟨_, rfl⟩
  rw [show ih_Qi x w ih_shX A _ = Q from hQ.symm]
  have hp := hX.1
  refine s_aload_n C 0 dX2_becomeBest_0 rfl ?_
  refine s_callVv 0 C (c_X2_sortRow _ w _ T hX hI hpl0) gX2_becomeBest_X2_sortRow rfl (by decide +kernel) (by decide) (by decide) (by decide) rfl (by decide) rfl rfl rfl (Nat.le_of_ble_eq_true rfl) dX2_becomeBest_1 ?_
  rintro S hX
  obtain ⟨hIs, hps⟩ := ih_Ts_I hI
  have hps0 : 0 < ih_pl (ih_Ts T) := by omega
  refine s_iconst (v := (-1)) C dX2_becomeBest_4 (by decide) ?_
  refine s_toe (b := ih_mo (ih_Ts T) 0) rfl ?_
  refine s_istore_n (lv' := [(1, .int (ih_mo (ih_Ts T) 0)), (0, .ref (w.2.2 46))]) C dX2_becomeBest_5 rfl (by decide) rfl ?_
  refine s_iconst (v := nI 0) C dX2_becomeBest_6 (by decide) ?_
  refine s_istore_n (lv' := [(2, .int (nI 0)), (1, .int (ih_mo (ih_Ts T) 0)), (0, .ref (w.2.2 46))]) C dX2_becomeBest_7 rfl (by decide) rfl ?_
  have loop_8 : ∀ (fu n : Nat), n + fu = Nn → ∀ S, (ih_RX S (ih_pn (ih_Ts T) (n)) ∧ (0 < n → ∀ j, j < ih_pl T → S.1 48 j = ih_pn (ih_Ts T) (ih_bi (ih_Ts T) (n - 1)) 5 j)) → ih_Mw x w ih_shX A Q 4 0 0 8 [(0, .ref (w.2.2 46)), (1, .int (ih_mo (ih_Ts T) (n))), (2, .int (nI n))] [] S := by
    intro fu
    induction fu with
    | zero =>
      intro n hne S ⟨hX, hkq⟩
      have hn0 : n = Nn := by omega
      obtain ⟨hIn, hpn⟩ := ih_pn_I hIs hps0 n
      replace hpn : ih_pl (ih_pn (ih_Ts T) n) = ih_pl T := hpn.trans hps
      have hp := hX.1
      have hqn : ih_q (ih_pn (ih_Ts T) n) = 0 := by rw [hn0]; exact hN2
      refine s_iload_n C 2 dX2_becomeBest_8 rfl ?_
      refine s_sipush (v := nI 720) C dX2_becomeBest_9 (by decide) ?_
      refine s_icmp_geN 67 C dX2_becomeBest_12 (by decide) (by omega) (by omega) (fun h12 => ?_) (fun h12 => ?_)
      · exfalso; omega
      · refine s_aload_n C 0 dX2_becomeBest_15 rfl ?_
        refine s_callVi 0 C (c_X2_halves _ w _ (ih_pn (ih_Ts T) n) hX hIn) gX2_becomeBest_X2_halvesWereMetExchanged rfl (by decide +kernel) (by decide) (by decide) (by decide) rfl (by decide) rfl rfl rfl (Nat.le_of_ble_eq_true rfl) dX2_becomeBest_16 ?_
        rintro rh S2 ⟨hrh, hSS⟩
        obtain rfl := hSS.symm
        rw [hpn] at hrh
        subst hrh
        cases hhm : rf_hm (ih_or (ih_pn (ih_Ts T) n)) (ih_pl T)
        · first | rw [hhm, cond_false] | rw [cond_false]
          refine s_if_neN 51 C dX2_becomeBest_19 (by decide) (by omega) (fun h19 => ?_) (fun h19 => ?_)
          · exact absurd h19 (by decide)
          · refine s_aload_n C 0 dX2_becomeBest_22 rfl ?_
            refine s_callVi 0 C (c_X2_rateNowF _ w _ (ih_pn (ih_Ts T) n) hX hIn (by omega)) gX2_becomeBest_X2_rateNow rfl (by decide +kernel) (by decide) (by decide) (by decide) rfl (by decide) rfl rfl rfl (Nat.le_of_ble_eq_true rfl) dX2_becomeBest_23 ?_
            rintro rv S ⟨hrv, hX1, hf1⟩
            subst hrv
            replace hkq : 0 < n → ∀ j, j < ih_pl T → S.1 48 j = ih_pn (ih_Ts T) (ih_bi (ih_Ts T) (n - 1)) 5 j := fun h j hj => by rw [hf1]; exact hkq h j hj
            replace hX := hX1
            have hrb := ih_rt_le hIn (by omega)
            have hp := hX.1
            refine s_istore_n (lv' := [(3, .int (nI (ih_rt (ih_pn (ih_Ts T) n)))), (0, .ref (w.2.2 46)), (1, .int (ih_mo (ih_Ts T) (n))), (2, .int (nI n))]) C dX2_becomeBest_26 rfl (by decide) rfl ?_
            refine s_iload_n C 0 dX2_becomeBest_27 rfl ?_
            refine s_iload_n C 2 dX2_becomeBest_28 rfl ?_
            refine s_icmp_le C 51 dX2_becomeBest_29 (by decide) (fun h29 => ?_) (fun h29 => ?_)
            · simp only [ih_lei, ih_lti, ih_t0, ih_t (n := ih_rt (ih_pn (ih_Ts T) n)) (by omega)] at h29
              obtain ⟨hnp, hbi, hmo⟩ := ih_mo_le hIs hps0 (n := n) h29
              rw [hmo]
              have hbe : ∀ j, j < ih_pl T → S.1 48 j = ih_pn (ih_Ts T) (ih_bi (ih_Ts T) n) 5 j := fun j hj => by rw [hbi]; exact hkq hnp j hj
              refine s_aload_n C 1 dX2_becomeBest_51 rfl ?_
              refine s_callVi 0 C (c_X2_nextRowF _ w _ (ih_pn (ih_Ts T) n) hX hIn _ rfl (by omega)) gX2_becomeBest_X2_nextRow rfl (by decide +kernel) (by decide) (by decide) (by decide) rfl (by decide) rfl rfl rfl (Nat.le_of_ble_eq_true rfl) dX2_becomeBest_52 ?_
              rintro rz S9 hrz
              rcases hrz with ⟨hq0, rfl, hX8, hk8⟩ | ⟨hq0, rfl, hX8, hk8⟩
              · replace hX := hX8
                have hp := hX.1
                replace hbe : ∀ j, j < ih_pl T → S9.1 48 j = ih_pn (ih_Ts T) (ih_bi (ih_Ts T) n) 5 j := fun j hj => (congrFun hk8 j).trans (hbe j hj)
                refine s_if_neN 61 C dX2_becomeBest_55 (by decide) (by omega) (fun h55 => ?_) (fun h55 => ?_)
                · exact absurd h55 (by decide)
                · refine s_goto C 67 dX2_becomeBest_58 (by decide) ?_
                  refine s_aload_n C 1 dX2_becomeBest_67 rfl ?_
                  refine s_getR C 2 4 (hp _ _ _ rfl) (by decide) rfl (by decide) rfl (fun _ h => List.mem_cons_of_mem _ (List.mem_append_left _ (List.mem_append_left _ (List.mem_append_right _ h)))) (by decide) rfl (by decide +kernel) dX2_becomeBest_68 ?_
                  refine s_iconst (v := nI 0) C dX2_becomeBest_71 (by decide) ?_
                  refine s_aload_n C 1 dX2_becomeBest_72 rfl ?_
                  refine s_getR C 2 2 (hp _ _ _ rfl) (by decide) rfl (by decide) rfl (fun _ h => List.mem_cons_of_mem _ (List.mem_append_left _ (List.mem_append_left _ (List.mem_append_right _ h)))) (by decide) rfl (by decide +kernel) dX2_becomeBest_73 ?_
                  refine s_iconst (v := nI 0) C dX2_becomeBest_76 (by decide) ?_
                  refine s_aload_n C 1 dX2_becomeBest_77 rfl ?_
                  refine s_getI C 2 3 (by decide) rfl (by decide) rfl (fun _ h => List.mem_cons_of_mem _ (List.mem_append_left _ (List.mem_append_left _ (List.mem_append_right _ h)))) (by decide) rfl (by decide +kernel) dX2_becomeBest_78 ?_
                  refine s_toe (b := nI (ih_pl T)) (hX.2.2.2.2.2.2.1.1.trans (hIn.2.2.1.1.trans (congrArg nI hpn))) ?_
                  refine s_copyi (k0 := 48) (k1 := 47) (a := 0) (b := 0) (m := ih_pl T) C (by decide) rfl (by decide) rfl (show 0 + ih_pl T ≤ 9 by omega) (show 0 + ih_pl T ≤ 9 by omega) (by omega) (by omega) (by omega) (by decide +kernel) (by decide +kernel) (by decide +kernel) (by decide +kernel) (by decide) (by decide) dX2_becomeBest_81 ?_
                  refine s_iload_n C 2 dX2_becomeBest_84 rfl ?_
                  rw [hQ]
                  exact s_ireturn C hA dX2_becomeBest_85 (by
                    refine ⟨ih_mo_s.trans (by rw [ih_bst_e (hNn.trans hn0.symm)]), ?_⟩
                    rw [ih_bst_e (hNn.trans hn0.symm)]
                    refine ih_RX_47 hX _ (fun j hj => ?_) (fun k hk => ?_)
                    · unfold va_cpy
                      by_cases hjp : j < ih_pl T
                      · rw [if_pos (by omega), Nat.sub_zero, Nat.zero_add]; exact hbe j hjp
                      · rw [if_neg (by omega), hX.2.2.2.2.2.2.1.2 j hj, ih_pn_out hIs hps0 (by rw [hps]; omega), ih_pn_out hIs hps0 (by rw [hps]; omega)]
                    · funext j
                      rw [ih_pn_out hIs hps0 (by omega), ih_pn_out hIs hps0 (by omega)])
              · exfalso; omega
            · simp only [ih_lei, ih_lti, ih_t0, ih_t (n := ih_rt (ih_pn (ih_Ts T) n)) (by omega)] at h29
              have hbi := ih_mo_gt hIs hps0 (n := n) h29
              refine s_iload_n C 0 dX2_becomeBest_32 rfl ?_
              refine s_toe (b := ih_mo (ih_Ts T) (n + 1)) (by show _ = nI (ih_rt (ih_pn (ih_Ts T) (ih_bi (ih_Ts T) n))); rw [hbi]) ?_
              refine s_istore_n (lv' := [(1, .int (ih_mo (ih_Ts T) (n + 1))), (3, .int (nI (ih_rt (ih_pn (ih_Ts T) n)))), (0, .ref (w.2.2 46)), (2, .int (nI n))]) C dX2_becomeBest_33 rfl (by decide) rfl ?_
              refine s_aload_n C 2 dX2_becomeBest_34 rfl ?_
              refine s_getR C 2 2 (hp _ _ _ rfl) (by decide) rfl (by decide) rfl (fun _ h => List.mem_cons_of_mem _ (List.mem_append_left _ (List.mem_append_left _ (List.mem_append_right _ h)))) (by decide) rfl (by decide +kernel) dX2_becomeBest_35 ?_
              refine s_iconst (v := nI 0) C dX2_becomeBest_38 (by decide) ?_
              refine s_aload_n C 2 dX2_becomeBest_39 rfl ?_
              refine s_getR C 2 4 (hp _ _ _ rfl) (by decide) rfl (by decide) rfl (fun _ h => List.mem_cons_of_mem _ (List.mem_append_left _ (List.mem_append_left _ (List.mem_append_right _ h)))) (by decide) rfl (by decide +kernel) dX2_becomeBest_40 ?_
              refine s_iconst (v := nI 0) C dX2_becomeBest_43 (by decide) ?_
              refine s_aload_n C 2 dX2_becomeBest_44 rfl ?_
              refine s_getI C 2 3 (by decide) rfl (by decide) rfl (fun _ h => List.mem_cons_of_mem _ (List.mem_append_left _ (List.mem_append_left _ (List.mem_append_right _ h)))) (by decide) rfl (by decide +kernel) dX2_becomeBest_45 ?_
              refine s_toe (b := nI (ih_pl T)) (hX.2.2.2.2.2.2.1.1.trans (hIn.2.2.1.1.trans (congrArg nI hpn))) ?_
              refine s_copyi (k0 := 47) (k1 := 48) (a := 0) (b := 0) (m := ih_pl T) C (by decide) rfl (by decide) rfl (show 0 + ih_pl T ≤ 9 by omega) (show 0 + ih_pl T ≤ 9 by omega) (by omega) (by omega) (by omega) (by decide +kernel) (by decide +kernel) (by decide +kernel) (by decide +kernel) (by decide) (by decide) dX2_becomeBest_48 ?_
              have hbe : ∀ j, j < ih_pl T → (ih_sA S 48 (va_cpy (S.1 47) (S.1 48) 0 0 (ih_pl T))).1 48 j = ih_pn (ih_Ts T) (ih_bi (ih_Ts T) n) 5 j := fun j hj => by
                rw [ih_sA_s]
                unfold va_cpy
                rw [if_pos (by omega), Nat.sub_zero, Nat.zero_add, hbi]
                exact hX.2.2.2.2.2.2.1.2 j (by omega)
              replace hX := ih_RX_48 hX (va_cpy (S.1 47) (S.1 48) 0 0 (ih_pl T))
              generalize ih_sA S 48 (va_cpy (S.1 47) (S.1 48) 0 0 (ih_pl T)) = S at hX hbe ⊢
              have hp := hX.1
              refine s_aload_n C 2 dX2_becomeBest_51 rfl ?_
              refine s_callVi 0 C (c_X2_nextRowF _ w _ (ih_pn (ih_Ts T) n) hX hIn _ rfl (by omega)) gX2_becomeBest_X2_nextRow rfl (by decide +kernel) (by decide) (by decide) (by decide) rfl (by decide) rfl rfl rfl (Nat.le_of_ble_eq_true rfl) dX2_becomeBest_52 ?_
              rintro rz S9 hrz
              rcases hrz with ⟨hq0, rfl, hX8, hk8⟩ | ⟨hq0, rfl, hX8, hk8⟩
              · replace hX := hX8
                have hp := hX.1
                replace hbe : ∀ j, j < ih_pl T → S9.1 48 j = ih_pn (ih_Ts T) (ih_bi (ih_Ts T) n) 5 j := fun j hj => (congrFun hk8 j).trans (hbe j hj)
                refine s_if_neN 61 C dX2_becomeBest_55 (by decide) (by omega) (fun h55 => ?_) (fun h55 => ?_)
                · exact absurd h55 (by decide)
                · refine s_goto C 67 dX2_becomeBest_58 (by decide) ?_
                  refine s_aload_n C 2 dX2_becomeBest_67 rfl ?_
                  refine s_getR C 2 4 (hp _ _ _ rfl) (by decide) rfl (by decide) rfl (fun _ h => List.mem_cons_of_mem _ (List.mem_append_left _ (List.mem_append_left _ (List.mem_append_right _ h)))) (by decide) rfl (by decide +kernel) dX2_becomeBest_68 ?_
                  refine s_iconst (v := nI 0) C dX2_becomeBest_71 (by decide) ?_
                  refine s_aload_n C 2 dX2_becomeBest_72 rfl ?_
                  refine s_getR C 2 2 (hp _ _ _ rfl) (by decide) rfl (by decide) rfl (fun _ h => List.mem_cons_of_mem _ (List.mem_append_left _ (List.mem_append_left _ (List.mem_append_right _ h)))) (by decide) rfl (by decide +kernel) dX2_becomeBest_73 ?_
                  refine s_iconst (v := nI 0) C dX2_becomeBest_76 (by decide) ?_
                  refine s_aload_n C 2 dX2_becomeBest_77 rfl ?_
                  refine s_getI C 2 3 (by decide) rfl (by decide) rfl (fun _ h => List.mem_cons_of_mem _ (List.mem_append_left _ (List.mem_append_left _ (List.mem_append_right _ h)))) (by decide) rfl (by decide +kernel) dX2_becomeBest_78 ?_
                  refine s_toe (b := nI (ih_pl T)) (hX.2.2.2.2.2.2.1.1.trans (hIn.2.2.1.1.trans (congrArg nI hpn))) ?_
                  refine s_copyi (k0 := 48) (k1 := 47) (a := 0) (b := 0) (m := ih_pl T) C (by decide) rfl (by decide) rfl (show 0 + ih_pl T ≤ 9 by omega) (show 0 + ih_pl T ≤ 9 by omega) (by omega) (by omega) (by omega) (by decide +kernel) (by decide +kernel) (by decide +kernel) (by decide +kernel) (by decide) (by decide) dX2_becomeBest_81 ?_
                  refine s_iload_n C 0 dX2_becomeBest_84 rfl ?_
                  rw [hQ]
                  exact s_ireturn C hA dX2_becomeBest_85 (by
                    refine ⟨ih_mo_s.trans (by rw [ih_bst_e (hNn.trans hn0.symm)]), ?_⟩
                    rw [ih_bst_e (hNn.trans hn0.symm)]
                    refine ih_RX_47 hX _ (fun j hj => ?_) (fun k hk => ?_)
                    · unfold va_cpy
                      by_cases hjp : j < ih_pl T
                      · rw [if_pos (by omega), Nat.sub_zero, Nat.zero_add]; exact hbe j hjp
                      · rw [if_neg (by omega), hX.2.2.2.2.2.2.1.2 j hj, ih_pn_out hIs hps0 (by rw [hps]; omega), ih_pn_out hIs hps0 (by rw [hps]; omega)]
                    · funext j
                      rw [ih_pn_out hIs hps0 (by omega), ih_pn_out hIs hps0 (by omega)])
              · exfalso; omega
        · first | rw [hhm, cond_true] | rw [cond_true]
          obtain ⟨mm, hmm, hrte⟩ := hH n (by omega) hhm
          obtain ⟨hnp, hbi, hmo⟩ := ih_bi_skip hmm hrte
          rw [hmo]
          have hbe : ∀ j, j < ih_pl T → S.1 48 j = ih_pn (ih_Ts T) (ih_bi (ih_Ts T) n) 5 j := fun j hj => by rw [hbi]; exact hkq hnp j hj
          refine s_if_neN 51 C dX2_becomeBest_19 (by decide) (by omega) (fun h19 => ?_) (fun h19 => ?_)
          · refine s_aload_n C 0 dX2_becomeBest_51 rfl ?_
            refine s_callVi 0 C (c_X2_nextRowF _ w _ (ih_pn (ih_Ts T) n) hX hIn _ rfl (by omega)) gX2_becomeBest_X2_nextRow rfl (by decide +kernel) (by decide) (by decide) (by decide) rfl (by decide) rfl rfl rfl (Nat.le_of_ble_eq_true rfl) dX2_becomeBest_52 ?_
            rintro rz S9 hrz
            rcases hrz with ⟨hq0, rfl, hX8, hk8⟩ | ⟨hq0, rfl, hX8, hk8⟩
            · replace hX := hX8
              have hp := hX.1
              replace hbe : ∀ j, j < ih_pl T → S9.1 48 j = ih_pn (ih_Ts T) (ih_bi (ih_Ts T) n) 5 j := fun j hj => (congrFun hk8 j).trans (hbe j hj)
              refine s_if_neN 61 C dX2_becomeBest_55 (by decide) (by omega) (fun h55 => ?_) (fun h55 => ?_)
              · exact absurd h55 (by decide)
              · refine s_goto C 67 dX2_becomeBest_58 (by decide) ?_
                refine s_aload_n C 0 dX2_becomeBest_67 rfl ?_
                refine s_getR C 2 4 (hp _ _ _ rfl) (by decide) rfl (by decide) rfl (fun _ h => List.mem_cons_of_mem _ (List.mem_append_left _ (List.mem_append_left _ (List.mem_append_right _ h)))) (by decide) rfl (by decide +kernel) dX2_becomeBest_68 ?_
                refine s_iconst (v := nI 0) C dX2_becomeBest_71 (by decide) ?_
                refine s_aload_n C 0 dX2_becomeBest_72 rfl ?_
                refine s_getR C 2 2 (hp _ _ _ rfl) (by decide) rfl (by decide) rfl (fun _ h => List.mem_cons_of_mem _ (List.mem_append_left _ (List.mem_append_left _ (List.mem_append_right _ h)))) (by decide) rfl (by decide +kernel) dX2_becomeBest_73 ?_
                refine s_iconst (v := nI 0) C dX2_becomeBest_76 (by decide) ?_
                refine s_aload_n C 0 dX2_becomeBest_77 rfl ?_
                refine s_getI C 2 3 (by decide) rfl (by decide) rfl (fun _ h => List.mem_cons_of_mem _ (List.mem_append_left _ (List.mem_append_left _ (List.mem_append_right _ h)))) (by decide) rfl (by decide +kernel) dX2_becomeBest_78 ?_
                refine s_toe (b := nI (ih_pl T)) (hX.2.2.2.2.2.2.1.1.trans (hIn.2.2.1.1.trans (congrArg nI hpn))) ?_
                refine s_copyi (k0 := 48) (k1 := 47) (a := 0) (b := 0) (m := ih_pl T) C (by decide) rfl (by decide) rfl (show 0 + ih_pl T ≤ 9 by omega) (show 0 + ih_pl T ≤ 9 by omega) (by omega) (by omega) (by omega) (by decide +kernel) (by decide +kernel) (by decide +kernel) (by decide +kernel) (by decide) (by decide) dX2_becomeBest_81 ?_
                refine s_iload_n C 1 dX2_becomeBest_84 rfl ?_
                rw [hQ]
                exact s_ireturn C hA dX2_becomeBest_85 (by
                  refine ⟨ih_mo_s.trans (by rw [ih_bst_e (hNn.trans hn0.symm)]), ?_⟩
                  rw [ih_bst_e (hNn.trans hn0.symm)]
                  refine ih_RX_47 hX _ (fun j hj => ?_) (fun k hk => ?_)
                  · unfold va_cpy
                    by_cases hjp : j < ih_pl T
                    · rw [if_pos (by omega), Nat.sub_zero, Nat.zero_add]; exact hbe j hjp
                    · rw [if_neg (by omega), hX.2.2.2.2.2.2.1.2 j hj, ih_pn_out hIs hps0 (by rw [hps]; omega), ih_pn_out hIs hps0 (by rw [hps]; omega)]
                  · funext j
                    rw [ih_pn_out hIs hps0 (by omega), ih_pn_out hIs hps0 (by omega)])
            · exfalso; omega
          · exact absurd h19 (by decide)
    | succ fu ih_8 =>
      intro n hne S ⟨hX, hkq⟩
      have hnl : n < Nn := by omega
      obtain ⟨hIn, hpn⟩ := ih_pn_I hIs hps0 n
      replace hpn : ih_pl (ih_pn (ih_Ts T) n) = ih_pl T := hpn.trans hps
      have hp := hX.1
      have hqn : ¬ ih_q (ih_pn (ih_Ts T) n) = 0 := hN1 n (by omega)
      refine s_iload_n C 2 dX2_becomeBest_8 rfl ?_
      refine s_sipush (v := nI 720) C dX2_becomeBest_9 (by decide) ?_
      refine s_icmp_geN 67 C dX2_becomeBest_12 (by decide) (by omega) (by omega) (fun h12 => ?_) (fun h12 => ?_)
      · exfalso; omega
      · refine s_aload_n C 0 dX2_becomeBest_15 rfl ?_
        refine s_callVi 0 C (c_X2_halves _ w _ (ih_pn (ih_Ts T) n) hX hIn) gX2_becomeBest_X2_halvesWereMetExchanged rfl (by decide +kernel) (by decide) (by decide) (by decide) rfl (by decide) rfl rfl rfl (Nat.le_of_ble_eq_true rfl) dX2_becomeBest_16 ?_
        rintro rh S2 ⟨hrh, hSS⟩
        obtain rfl := hSS.symm
        rw [hpn] at hrh
        subst hrh
        cases hhm : rf_hm (ih_or (ih_pn (ih_Ts T) n)) (ih_pl T)
        · first | rw [hhm, cond_false] | rw [cond_false]
          refine s_if_neN 51 C dX2_becomeBest_19 (by decide) (by omega) (fun h19 => ?_) (fun h19 => ?_)
          · exact absurd h19 (by decide)
          · refine s_aload_n C 0 dX2_becomeBest_22 rfl ?_
            refine s_callVi 0 C (c_X2_rateNowF _ w _ (ih_pn (ih_Ts T) n) hX hIn (by omega)) gX2_becomeBest_X2_rateNow rfl (by decide +kernel) (by decide) (by decide) (by decide) rfl (by decide) rfl rfl rfl (Nat.le_of_ble_eq_true rfl) dX2_becomeBest_23 ?_
            rintro rv S ⟨hrv, hX1, hf1⟩
            subst hrv
            replace hkq : 0 < n → ∀ j, j < ih_pl T → S.1 48 j = ih_pn (ih_Ts T) (ih_bi (ih_Ts T) (n - 1)) 5 j := fun h j hj => by rw [hf1]; exact hkq h j hj
            replace hX := hX1
            have hrb := ih_rt_le hIn (by omega)
            have hp := hX.1
            refine s_istore_n (lv' := [(3, .int (nI (ih_rt (ih_pn (ih_Ts T) n)))), (0, .ref (w.2.2 46)), (1, .int (ih_mo (ih_Ts T) (n))), (2, .int (nI n))]) C dX2_becomeBest_26 rfl (by decide) rfl ?_
            refine s_iload_n C 0 dX2_becomeBest_27 rfl ?_
            refine s_iload_n C 2 dX2_becomeBest_28 rfl ?_
            refine s_icmp_le C 51 dX2_becomeBest_29 (by decide) (fun h29 => ?_) (fun h29 => ?_)
            · simp only [ih_lei, ih_lti, ih_t0, ih_t (n := ih_rt (ih_pn (ih_Ts T) n)) (by omega)] at h29
              obtain ⟨hnp, hbi, hmo⟩ := ih_mo_le hIs hps0 (n := n) h29
              rw [hmo]
              have hbe : ∀ j, j < ih_pl T → S.1 48 j = ih_pn (ih_Ts T) (ih_bi (ih_Ts T) n) 5 j := fun j hj => by rw [hbi]; exact hkq hnp j hj
              refine s_aload_n C 1 dX2_becomeBest_51 rfl ?_
              refine s_callVi 0 C (c_X2_nextRowF _ w _ (ih_pn (ih_Ts T) n) hX hIn _ rfl (by omega)) gX2_becomeBest_X2_nextRow rfl (by decide +kernel) (by decide) (by decide) (by decide) rfl (by decide) rfl rfl rfl (Nat.le_of_ble_eq_true rfl) dX2_becomeBest_52 ?_
              rintro rz S9 hrz
              rcases hrz with ⟨hq0, rfl, hX8, hk8⟩ | ⟨hq0, rfl, hX8, hk8⟩
              · exact absurd hq0 hqn
              · refine s_if_neN 61 C dX2_becomeBest_55 (by decide) (by omega) (fun h55 => ?_) (fun h55 => ?_)
                · refine s_iinc (u := nI (n + 1)) (lv' := [(2, .int (nI (n + 1))), (3, .int (nI (ih_rt (ih_pn (ih_Ts T) n)))), (0, .ref (w.2.2 46)), (1, .int (ih_mo (ih_Ts T) (n + 1)))]) C 3 dX2_becomeBest_61 rfl (ih_incN (by decide)) (by decide) rfl ?_
                  refine s_goto C 8 dX2_becomeBest_64 (by decide) ?_
                  refine s_perm [2, 3, 0] rfl ?_
                  exact ih_8 (n + 1) (by omega) _ ⟨hX8, fun _ j hj => (congrFun hk8 j).trans (hbe j hj)⟩
                · exact absurd h55 (by decide)
            · simp only [ih_lei, ih_lti, ih_t0, ih_t (n := ih_rt (ih_pn (ih_Ts T) n)) (by omega)] at h29
              have hbi := ih_mo_gt hIs hps0 (n := n) h29
              refine s_iload_n C 0 dX2_becomeBest_32 rfl ?_
              refine s_toe (b := ih_mo (ih_Ts T) (n + 1)) (by show _ = nI (ih_rt (ih_pn (ih_Ts T) (ih_bi (ih_Ts T) n))); rw [hbi]) ?_
              refine s_istore_n (lv' := [(1, .int (ih_mo (ih_Ts T) (n + 1))), (3, .int (nI (ih_rt (ih_pn (ih_Ts T) n)))), (0, .ref (w.2.2 46)), (2, .int (nI n))]) C dX2_becomeBest_33 rfl (by decide) rfl ?_
              refine s_aload_n C 2 dX2_becomeBest_34 rfl ?_
              refine s_getR C 2 2 (hp _ _ _ rfl) (by decide) rfl (by decide) rfl (fun _ h => List.mem_cons_of_mem _ (List.mem_append_left _ (List.mem_append_left _ (List.mem_append_right _ h)))) (by decide) rfl (by decide +kernel) dX2_becomeBest_35 ?_
              refine s_iconst (v := nI 0) C dX2_becomeBest_38 (by decide) ?_
              refine s_aload_n C 2 dX2_becomeBest_39 rfl ?_
              refine s_getR C 2 4 (hp _ _ _ rfl) (by decide) rfl (by decide) rfl (fun _ h => List.mem_cons_of_mem _ (List.mem_append_left _ (List.mem_append_left _ (List.mem_append_right _ h)))) (by decide) rfl (by decide +kernel) dX2_becomeBest_40 ?_
              refine s_iconst (v := nI 0) C dX2_becomeBest_43 (by decide) ?_
              refine s_aload_n C 2 dX2_becomeBest_44 rfl ?_
              refine s_getI C 2 3 (by decide) rfl (by decide) rfl (fun _ h => List.mem_cons_of_mem _ (List.mem_append_left _ (List.mem_append_left _ (List.mem_append_right _ h)))) (by decide) rfl (by decide +kernel) dX2_becomeBest_45 ?_
              refine s_toe (b := nI (ih_pl T)) (hX.2.2.2.2.2.2.1.1.trans (hIn.2.2.1.1.trans (congrArg nI hpn))) ?_
              refine s_copyi (k0 := 47) (k1 := 48) (a := 0) (b := 0) (m := ih_pl T) C (by decide) rfl (by decide) rfl (show 0 + ih_pl T ≤ 9 by omega) (show 0 + ih_pl T ≤ 9 by omega) (by omega) (by omega) (by omega) (by decide +kernel) (by decide +kernel) (by decide +kernel) (by decide +kernel) (by decide) (by decide) dX2_becomeBest_48 ?_
              have hbe : ∀ j, j < ih_pl T → (ih_sA S 48 (va_cpy (S.1 47) (S.1 48) 0 0 (ih_pl T))).1 48 j = ih_pn (ih_Ts T) (ih_bi (ih_Ts T) n) 5 j := fun j hj => by
                rw [ih_sA_s]
                unfold va_cpy
                rw [if_pos (by omega), Nat.sub_zero, Nat.zero_add, hbi]
                exact hX.2.2.2.2.2.2.1.2 j (by omega)
              replace hX := ih_RX_48 hX (va_cpy (S.1 47) (S.1 48) 0 0 (ih_pl T))
              generalize ih_sA S 48 (va_cpy (S.1 47) (S.1 48) 0 0 (ih_pl T)) = S at hX hbe ⊢
              have hp := hX.1
              refine s_aload_n C 2 dX2_becomeBest_51 rfl ?_
              refine s_callVi 0 C (c_X2_nextRowF _ w _ (ih_pn (ih_Ts T) n) hX hIn _ rfl (by omega)) gX2_becomeBest_X2_nextRow rfl (by decide +kernel) (by decide) (by decide) (by decide) rfl (by decide) rfl rfl rfl (Nat.le_of_ble_eq_true rfl) dX2_becomeBest_52 ?_
              rintro rz S9 hrz
              rcases hrz with ⟨hq0, rfl, hX8, hk8⟩ | ⟨hq0, rfl, hX8, hk8⟩
              · exact absurd hq0 hqn
              · refine s_if_neN 61 C dX2_becomeBest_55 (by decide) (by omega) (fun h55 => ?_) (fun h55 => ?_)
                · refine s_iinc (u := nI (n + 1)) (lv' := [(2, .int (nI (n + 1))), (1, .int (ih_mo (ih_Ts T) (n + 1))), (3, .int (nI (ih_rt (ih_pn (ih_Ts T) n)))), (0, .ref (w.2.2 46))]) C 3 dX2_becomeBest_61 rfl (ih_incN (by decide)) (by decide) rfl ?_
                  refine s_goto C 8 dX2_becomeBest_64 (by decide) ?_
                  refine s_perm [3, 1, 0] rfl ?_
                  exact ih_8 (n + 1) (by omega) _ ⟨hX8, fun _ j hj => (congrFun hk8 j).trans (hbe j hj)⟩
                · exact absurd h55 (by decide)
        · first | rw [hhm, cond_true] | rw [cond_true]
          obtain ⟨mm, hmm, hrte⟩ := hH n (by omega) hhm
          obtain ⟨hnp, hbi, hmo⟩ := ih_bi_skip hmm hrte
          rw [hmo]
          have hbe : ∀ j, j < ih_pl T → S.1 48 j = ih_pn (ih_Ts T) (ih_bi (ih_Ts T) n) 5 j := fun j hj => by rw [hbi]; exact hkq hnp j hj
          refine s_if_neN 51 C dX2_becomeBest_19 (by decide) (by omega) (fun h19 => ?_) (fun h19 => ?_)
          · refine s_aload_n C 0 dX2_becomeBest_51 rfl ?_
            refine s_callVi 0 C (c_X2_nextRowF _ w _ (ih_pn (ih_Ts T) n) hX hIn _ rfl (by omega)) gX2_becomeBest_X2_nextRow rfl (by decide +kernel) (by decide) (by decide) (by decide) rfl (by decide) rfl rfl rfl (Nat.le_of_ble_eq_true rfl) dX2_becomeBest_52 ?_
            rintro rz S9 hrz
            rcases hrz with ⟨hq0, rfl, hX8, hk8⟩ | ⟨hq0, rfl, hX8, hk8⟩
            · exact absurd hq0 hqn
            · refine s_if_neN 61 C dX2_becomeBest_55 (by decide) (by omega) (fun h55 => ?_) (fun h55 => ?_)
              · refine s_iinc (u := nI (n + 1)) (lv' := [(2, .int (nI (n + 1))), (0, .ref (w.2.2 46)), (1, .int (ih_mo (ih_Ts T) (n + 1)))]) C 2 dX2_becomeBest_61 rfl (ih_incN (by decide)) (by decide) rfl ?_
                refine s_goto C 8 dX2_becomeBest_64 (by decide) ?_
                refine s_perm [1, 2, 0] rfl ?_
                exact ih_8 (n + 1) (by omega) _ ⟨hX8, fun _ j hj => (congrFun hk8 j).trans (hbe j hj)⟩
              · exact absurd h55 (by decide)
          · exact absurd h19 (by decide)
  refine s_perm [2, 1, 0] rfl ?_
  exact loop_8 Nn 0 (by omega) _ ⟨hX, fun h => absurd h (Nat.lt_irrefl 0)⟩

set_option maxHeartbeats 4000000 in
set_option maxRecDepth 100000 in
theorem c_X7_best (l : Launch) (w : ih_Wd) (S : ih_Sg) (T : ih_TT) (hX : ih_RX S T) (hI : ih_Inv T) : ih_Ci l yX7_best wsX7_best 5 w ih_shX [.ref (w.2.2 0)] S (fun r S' => r = (sp_best T).1 ∧ ih_RX S' (sp_best T).2) := by
  refine ih_bodyi (ret := some .int) rfl rfl (Nat.le_of_ble_eq_true rfl) ?_
  intro x A hA C
  have C : ih_Ok x w A cX7_best 1 RX7 wsX7_best (ih_rm 5) (some .int) := C
  show ih_Mw x w ih_shX A (ih_Qi x w ih_shX A _) 1 0 0 0 [(0, .ref (w.2.2 0))] [] S
  have hct : ih_ct T ≤ 12 := hI.2.1.2.1
  have hp := hX.1
  have hpl9 : ih_pl T ≤ 9 := hI.2.2.1.2.1
  refine s_aload_n C 0 dX7_best_0 rfl ?_
  refine s_getR C 7 4 (hp _ _ _ rfl) (by decide) rfl (by decide) rfl (fun _ h => List.mem_cons_of_mem _ (List.mem_append_left _ (List.mem_append_left _ (List.mem_append_left _ (List.mem_append_right _ h))))) (by decide) rfl (by decide +kernel) dX7_best_1 ?_
  refine s_getI C 2 3 (by decide) rfl (by decide) rfl (fun _ h => List.mem_cons_of_mem _ (List.mem_append_left _ (List.mem_append_left _ (List.mem_append_right _ h)))) (by decide) rfl (by decide +kernel) dX7_best_4 ?_
  refine s_toe (ih_RX_pl hX hI) ?_
  refine s_if_eqN 22 C dX7_best_7 (by decide) (by omega) (fun h7 => ?_) (fun h7 => ?_)
  · refine s_ldc (v := (-1000002)) C (by decide +kernel) dX7_best_22 ?_
    exact s_ireturn C hA dX7_best_24 (by rw [sp_best, if_pos (by omega)]; exact ⟨rfl, hX⟩)
  · refine s_aload_n C 0 dX7_best_10 rfl ?_
    refine s_getR C 7 4 (hp _ _ _ rfl) (by decide) rfl (by decide) rfl (fun _ h => List.mem_cons_of_mem _ (List.mem_append_left _ (List.mem_append_left _ (List.mem_append_left _ (List.mem_append_right _ h))))) (by decide) rfl (by decide +kernel) dX7_best_11 ?_
    refine s_getI C 2 3 (by decide) rfl (by decide) rfl (fun _ h => List.mem_cons_of_mem _ (List.mem_append_left _ (List.mem_append_left _ (List.mem_append_right _ h)))) (by decide) rfl (by decide +kernel) dX7_best_14 ?_
    refine s_toe (ih_RX_pl hX hI) ?_
    refine s_bipush (v := nI 6) C dX7_best_17 (by decide) ?_
    refine s_icmp_leN 25 C dX7_best_19 (by decide) (by omega) (by omega) (fun h19 => ?_) (fun h19 => ?_)
    · obtain ⟨Nn, hN720, hNn, hN1, hN2, hH⟩ := ih_fin hI (by omega) (by omega)
      refine s_aload_n C 0 dX7_best_25 rfl ?_
      refine s_getR C 7 4 (hp _ _ _ rfl) (by decide) rfl (by decide) rfl (fun _ h => List.mem_cons_of_mem _ (List.mem_append_left _ (List.mem_append_left _ (List.mem_append_left _ (List.mem_append_right _ h))))) (by decide) rfl (by decide +kernel) dX7_best_26 ?_
      refine s_callVi 0 C (c_X2_becomeBest _ w _ T hX hI (by omega) (by omega) Nn hN720 hNn hN1 hN2 hH) gX7_best_X2_becomeBest rfl (by decide +kernel) (by decide) (by decide) (by decide) rfl (by decide) rfl rfl rfl (Nat.le_of_ble_eq_true rfl) dX7_best_29 ?_
      rintro rr S ⟨hrr, hX⟩
      exact s_ireturn C hA dX7_best_32 (by rw [sp_best, if_neg (by omega)]; generalize ih_bst T = q at hrr hX ⊢; exact ⟨hrr, hX⟩)
    · refine s_ldc (v := (-1000002)) C (by decide +kernel) dX7_best_22 ?_
      exact s_ireturn C hA dX7_best_24 (by rw [sp_best, if_pos (by omega)]; exact ⟨rfl, hX⟩)

