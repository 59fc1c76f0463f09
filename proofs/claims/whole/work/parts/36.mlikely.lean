theorem ih_lk_p {b : Bool} {c : Nat → Nat → Nat} {pl n p s r : Nat} (hn : 0 < n) (hs : s < 24) : ih_lk b c pl n p s r = ih_sum (ih_lf b c pl (n - 1) p s r) 6 / 1000 := by
  obtain ⟨m, rfl⟩ : ∃ m, n = m + 1 := ⟨n - 1, by omega⟩
  exact ih_lk_s hs
theorem ih_lk_n {b : Bool} {c : Nat → Nat → Nat} {pl n p s r : Nat} (h : ¬ (0 < n ∧ s < 24)) : ih_lk b c pl n p s r = if r = 0 then 1000000 else 0 := by
  rcases Nat.lt_or_ge s 24 with hs | hs
  · have : n = 0 := by omega
    subst this; exact ih_lk_z
  · exact ih_lk_o (by omega)
def ih_LT (I : Nat → Nat → Int32) (b : Bool) (c : Nat → Nat → Nat) (pl N P Z O : Nat) : Prop := ∀ n p s r, p < pl → s < 25 → r < 10 → (n < N ∨ (n = N ∧ (p < P ∨ (p = P ∧ (s < Z ∨ (s = Z ∧ r < O)))))) → I 7 (10 * (225 * n + 25 * p + s) + r) = nI (ih_lk b c pl n p s r)
theorem ih_LT_w {S : ih_Sg} {b : Bool} {c : Nat → Nat → Nat} {pl N P Z O : Nat} {v : Int32} (h : ih_LT S.1 b c pl N P Z O) (hv : v = nI (ih_lk b c pl N P Z O)) (hpl : pl ≤ 9) (hP : P < pl) (hZ : Z < 25) (hO : O < 10) : ih_LT (ih_sI S 7 (10 * (225 * N + 25 * P + Z) + O) v).1 b c pl N P Z (O + 1) := by
  intro n p s r hp hs hr hc
  show ih_u2 S.1 7 (10 * (225 * N + 25 * P + Z) + O) v 7 (10 * (225 * n + 25 * p + s) + r) = _
  by_cases he : n = N ∧ p = P ∧ s = Z ∧ r = O
  · obtain ⟨rfl, rfl, rfl, rfl⟩ := he
    rw [ih_u2_s]; exact hv
  · rw [ih_u2_j (by omega)]
    exact h n p s r hp hs hr (by omega)
theorem ih_LT_s {I : Nat → Nat → Int32} {b : Bool} {c : Nat → Nat → Nat} {pl N P Z : Nat} (h : ih_LT I b c pl N P Z 10) : ih_LT I b c pl N P (Z + 1) 0 := fun n p s r hp hs hr hc => h n p s r hp hs hr (by omega)
theorem ih_LT_p {I : Nat → Nat → Int32} {b : Bool} {c : Nat → Nat → Nat} {pl N P : Nat} (h : ih_LT I b c pl N P 25 0) : ih_LT I b c pl N (P + 1) 0 0 := fun n p s r hp hs hr hc => h n p s r hp hs hr (by omega)
theorem ih_LT_n {I : Nat → Nat → Int32} {b : Bool} {c : Nat → Nat → Nat} {pl N : Nat} (h : ih_LT I b c pl N pl 0 0) : ih_LT I b c pl (N + 1) 0 0 0 := fun n p s r hp hs hr hc => h n p s r hp hs hr (by omega)
def sp_likely (T : ih_TT) (s p n r : Int32) : Int32 := if ((0 ≤ s.toInt ∧ s.toInt ≤ 24) ∧ (0 ≤ p.toInt ∧ p.toInt < ih_pl T) ∧ (0 ≤ n.toInt ∧ n.toInt ≤ 30)) ∧ (0 ≤ r.toInt ∧ r.toInt ≤ 9) then nI (ih_lk (decide (ih_n r = 9)) (ih_cc T) (ih_pl T) (ih_n n) (ih_n p) (ih_n s) (ih_n r)) else -1000001
set_option maxHeartbeats 4000000 in
set_option maxRecDepth 100000 in
theorem c_X8_likely (l : Launch) (w : ih_Wd) (S : ih_Sg) (T : ih_TT) (hM : ih_RM S T) (hI : ih_Inv T) (s p n r_ : Int32) : ih_Ci l yX8_likely wsX8_likely 2 w ih_shM [.ref (w.2.2 0), .int s, .int p, .int n, .int r_] S (fun r S' => r = sp_likely T s p n r_ ∧ ih_RM S' T) := by
  refine ih_bodyi (ret := some .int) rfl rfl (Nat.le_of_ble_eq_true rfl) ?_
  intro x A hA C
  have C : ih_Ok x w A cX8_likely 18 RX8 wsX8_likely (ih_rm 2) (some .int) := C
  show ih_Mw x w ih_shM A (ih_Qi x w ih_shM A _) 18 0 0 0 [(0, .ref (w.2.2 0)), (1, .int s), (2, .int p), (3, .int n), (4, .int r_)] [] S
  obtain ⟨Q, hQ⟩ : ∃ Q, Q = ih_Qi x w ih_shM A (fun r S' => r = sp_likely T s p n r_ ∧ ih_RM S' T) := ⟨_, rfl⟩
  rw [show ih_Qi x w ih_shM A _ = Q from hQ.symm]
  have hpl9 : ih_pl T ≤ 9 := hI.2.2.1.2.1
  have hct : ih_ct T ≤ 12 := hI.2.1.2.1
  have hok := ih_cc_ok hI
  have hor : ∀ p, p < ih_pl T → ih_or T p < 12 := fun p hp => by have := (hI.2.2.1.2.2 p hp).2; omega
  refine s_aload_n C 0 dX8_likely_0 rfl ?_
  refine s_iconst (v := nI 0) C dX8_likely_1 (by decide) ?_
  refine s_putI (ty := .int) C 8 0 tyX8 tyX8_ok nmX8 (by decide) rfl (by decide) rfl (fun _ h => List.mem_cons_of_mem _ (List.mem_append_right _ h)) (by decide) rfl (by decide +kernel) rfl (by decide +kernel) rfl rfl dX8_likely_2 ?_
  refine m_hide hM rfl (fun S hM => ?_)
  refine s_aload_n C 0 dX8_likely_5 rfl ?_
  refine s_iload_n C 1 dX8_likely_6 rfl ?_
  refine s_iload_n C 2 dX8_likely_7 rfl ?_
  refine s_iload_n C 3 dX8_likely_8 rfl ?_
  refine s_callVi 3 C (c_X8_isAt _ w _ hM hI _ _ _) gX8_likely_X8_isAt rfl (by decide +kernel) (by decide) (by decide) (by decide) rfl (by decide) rfl rfl rfl (Nat.le_of_ble_eq_true rfl) dX8_likely_9 ?_
  rintro ra9 S2 ⟨hra9, rfl⟩
  refine s_if_eq C 28 dX8_likely_12 (by decide) (fun h12 => ?_) (fun h12 => ?_)
  · replace h12 := ih_b0 hra9 h12
    refine s_ldc (v := (-1000001)) C (by decide +kernel) dX8_likely_28 ?_
    rw [hQ]
    exact s_ireturn C hA dX8_likely_30 (by rw [sp_likely, if_neg (by omega)]; exact ⟨rfl, hM⟩)
  · replace h12 := ih_b1 hra9 h12
    refine s_iload C 4 dX8_likely_15 rfl ?_
    refine s_i2l C dX8_likely_17 ?_
    refine s_lconst (v := lN 0) C dX8_likely_18 rfl ?_
    refine s_ldc2 (v := lN 9) C (by decide +kernel) dX8_likely_19 ?_
    refine s_callSi 3 C (c_X8_in _ w _ _ _ _ _) gX8_likely_X8_in rfl (by decide +kernel) (by decide) (by decide) rfl rfl (Nat.le_of_ble_eq_true rfl) dX8_likely_22 ?_
    rintro rb22 S2 ⟨hrb22, rfl⟩
    rw [ih_wide, ih_tl (by decide), ih_tl (by decide)] at hrb22
    refine s_if_ne C 31 dX8_likely_25 (by decide) (fun h25 => ?_) (fun h25 => ?_)
    · replace h25 := ih_b1 hrb22 h25
      obtain ⟨sn, hsn, rfl, hsnt⟩ := ih_nat (a := s) h12.1.1
      obtain ⟨pn, hpn, rfl, hpnt⟩ := ih_nat (a := p) h12.2.1.1
      obtain ⟨nn, hnn, rfl, hnnt⟩ := ih_nat (a := n) h12.2.2.1
      obtain ⟨rn_, hrn_, rfl, hrn_t⟩ := ih_nat (a := r_) h25.1
      have hpl0 : 0 < ih_pl T := by omega
      refine s_iconst (v := nI 0) C dX8_likely_31 (by decide) ?_
      refine s_istore (lv' := [(5, .int (nI 0)), (0, .ref (w.2.2 0)), (1, .int (nI sn)), (2, .int (nI pn)), (3, .int (nI nn)), (4, .int (nI rn_))]) C dX8_likely_32 (by decide) rfl ?_
      have hx_34 : ∀ S, ih_RM S T ∧ ih_LT S.1 (decide (rn_ = 9)) (ih_cc T) (ih_pl T) (nn + 1) 0 0 0 → ih_Mw x w ih_shM A Q 18 0 0 321 [(0, .ref (w.2.2 0)), (1, .int (nI sn)), (2, .int (nI pn)), (3, .int (nI nn)), (4, .int (nI rn_)), (5, .int (nI (nn + 1)))] [] S := by
        intro S ⟨hM, ht⟩
        refine s_aload_n C 0 dX8_likely_321 rfl ?_
        refine s_getR C 8 10 (hM.1 _ _ _ rfl) (by decide) rfl (by decide) rfl (fun _ h => List.mem_cons_of_mem _ (List.mem_append_right _ h)) (by decide) rfl (by decide +kernel) dX8_likely_322 ?_
        refine s_bipush (v := nI 10) C dX8_likely_325 (by decide) ?_
        refine s_sipush (v := nI 225) C dX8_likely_327 (by decide) ?_
        refine s_iload_n C 3 dX8_likely_330 rfl ?_
        refine s_imulN C dX8_likely_331 ?_
        refine s_bipush (v := nI 25) C dX8_likely_332 (by decide) ?_
        refine s_iload_n C 2 dX8_likely_334 rfl ?_
        refine s_imulN C dX8_likely_335 ?_
        refine s_iaddN C dX8_likely_336 ?_
        refine s_iload_n C 1 dX8_likely_337 rfl ?_
        refine s_iaddN C dX8_likely_338 ?_
        refine s_imulN C dX8_likely_339 ?_
        refine s_iload C 4 dX8_likely_340 rfl ?_
        refine s_iaddN C dX8_likely_342 ?_
        refine s_iaload C 69750 ((10 * (((225 * nn) + (25 * pn)) + sn)) + rn_) rfl rfl (by omega) (by decide) (by decide) rfl dX8_likely_343 ?_
        refine s_toe (b := nI (ih_lk (decide (rn_ = 9)) (ih_cc T) (ih_pl T) (nn) (pn) (sn) (rn_))) (ht nn pn sn rn_ (by omega) (by omega) (by omega) (Or.inl (by omega))) ?_
        rw [hQ]
        exact s_ireturn C hA dX8_likely_344 (by rw [sp_likely, if_pos (by omega), ih_n_nI hsn, ih_n_nI hpn, ih_n_nI hnn, ih_n_nI hrn_]; exact ⟨rfl, hM⟩)
      have loop_34 : ∀ (fu kk : Nat), kk + fu = nn + 1 → ∀ S, ih_RM S T ∧ ih_LT S.1 (decide (rn_ = 9)) (ih_cc T) (ih_pl T) (kk) 0 0 0 → ih_Mw x w ih_shM A Q 18 0 0 34 [(0, .ref (w.2.2 0)), (1, .int (nI sn)), (2, .int (nI pn)), (3, .int (nI nn)), (4, .int (nI rn_)), (5, .int (nI kk))] [] S := by
        intro fu
        induction fu with
        | zero =>
          intro kk hkke S ⟨hM, ht⟩
          have hkk0 : kk = nn + 1 := by omega
          refine s_iload C 5 dX8_likely_34 rfl ?_
          refine s_iload_n C 3 dX8_likely_36 rfl ?_
          refine s_icmp_gtN 321 C dX8_likely_37 (by decide) (by omega) (by omega) (fun h37 => ?_) (fun h37 => ?_)
          · subst hkk0
            exact hx_34 _ ⟨hM, ht⟩
          · exfalso; omega
        | succ fu ih_34 =>
          intro kk hkke S ⟨hM, ht⟩
          have hkkl : kk < nn + 1 := by omega
          refine s_iload C 5 dX8_likely_34 rfl ?_
          refine s_iload_n C 3 dX8_likely_36 rfl ?_
          refine s_icmp_gtN 321 C dX8_likely_37 (by decide) (by omega) (by omega) (fun h37 => ?_) (fun h37 => ?_)
          · exfalso; omega
          · refine s_iconst (v := nI 0) C dX8_likely_40 (by decide) ?_
            refine s_istore (lv' := [(6, .int (nI 0)), (0, .ref (w.2.2 0)), (1, .int (nI sn)), (2, .int (nI pn)), (3, .int (nI nn)), (4, .int (nI rn_)), (5, .int (nI kk))]) C dX8_likely_41 (by decide) rfl ?_
            have hx_43 : ∀ S, ih_RM S T ∧ ih_LT S.1 (decide (rn_ = 9)) (ih_cc T) (ih_pl T) kk (ih_pl T) 0 0 → ih_Mw x w ih_shM A Q 18 0 0 315 [(0, .ref (w.2.2 0)), (1, .int (nI sn)), (2, .int (nI pn)), (3, .int (nI nn)), (4, .int (nI rn_)), (5, .int (nI kk)), (6, .int (nI (ih_pl T)))] [] S := by
              intro S ⟨hM, ht⟩
              refine s_iinc (u := nI (kk + 1)) (lv' := [(5, .int (nI (kk + 1))), (0, .ref (w.2.2 0)), (1, .int (nI sn)), (2, .int (nI pn)), (3, .int (nI nn)), (4, .int (nI rn_)), (6, .int (nI (ih_pl T)))]) C 5 dX8_likely_315 rfl (ih_incN (by decide)) (by decide) rfl ?_
              refine s_goto C 34 dX8_likely_318 (by decide) ?_
              refine s_perm [1, 2, 3, 4, 5, 0] rfl ?_
              exact ih_34 (kk + 1) (by omega) _ ⟨hM, ih_LT_n ht⟩
            have loop_43 : ∀ (fu pp : Nat), pp + fu = ih_pl T → ∀ S, ih_RM S T ∧ ih_LT S.1 (decide (rn_ = 9)) (ih_cc T) (ih_pl T) kk (pp) 0 0 → ih_Mw x w ih_shM A Q 18 0 0 43 [(0, .ref (w.2.2 0)), (1, .int (nI sn)), (2, .int (nI pn)), (3, .int (nI nn)), (4, .int (nI rn_)), (5, .int (nI kk)), (6, .int (nI pp))] [] S := by
              intro fu
              induction fu with
              | zero =>
                intro pp hppe S ⟨hM, ht⟩
                have hpp0 : pp = ih_pl T := by omega
                refine s_iload C 6 dX8_likely_43 rfl ?_
                refine s_aload_n C 0 dX8_likely_45 rfl ?_
                refine s_getI C 8 7 (by decide) rfl (by decide) rfl (fun _ h => List.mem_cons_of_mem _ (List.mem_append_right _ h)) (by decide) rfl (by decide +kernel) dX8_likely_46 ?_
                refine s_toe (b := T 0 7) (hM.2 _ _ rfl) ?_
                refine s_toe (b := nI (ih_pl T)) hI.2.2.1.1 ?_
                refine s_icmp_geN 315 C dX8_likely_49 (by decide) (by omega) (by omega) (fun h49 => ?_) (fun h49 => ?_)
                · subst hpp0
                  exact hx_43 _ ⟨hM, ht⟩
                · exfalso; omega
              | succ fu ih_43 =>
                intro pp hppe S ⟨hM, ht⟩
                have hppl : pp < ih_pl T := by omega
                have hpl : pp < ih_pl T := by omega
                have hmod := Nat.mod_lt (pp + 1) hpl0
                have hop := hor pp hpl
                refine s_iload C 6 dX8_likely_43 rfl ?_
                refine s_aload_n C 0 dX8_likely_45 rfl ?_
                refine s_getI C 8 7 (by decide) rfl (by decide) rfl (fun _ h => List.mem_cons_of_mem _ (List.mem_append_right _ h)) (by decide) rfl (by decide +kernel) dX8_likely_46 ?_
                refine s_toe (b := T 0 7) (hM.2 _ _ rfl) ?_
                refine s_toe (b := nI (ih_pl T)) hI.2.2.1.1 ?_
                refine s_icmp_geN 315 C dX8_likely_49 (by decide) (by omega) (by omega) (fun h49 => ?_) (fun h49 => ?_)
                · exfalso; omega
                · refine s_iload C 6 dX8_likely_52 rfl ?_
                  refine s_iconst (v := nI 1) C dX8_likely_54 (by decide) ?_
                  refine s_iaddN C dX8_likely_55 ?_
                  refine s_aload_n C 0 dX8_likely_56 rfl ?_
                  refine s_getI C 8 7 (by decide) rfl (by decide) rfl (fun _ h => List.mem_cons_of_mem _ (List.mem_append_right _ h)) (by decide) rfl (by decide +kernel) dX8_likely_57 ?_
                  refine s_toe (b := T 0 7) (hM.2 _ _ rfl) ?_
                  refine s_toe (b := nI (ih_pl T)) hI.2.2.1.1 ?_
                  refine s_iremN C dX8_likely_60 (by omega) (by omega) (by omega) ?_
                  refine s_istore (lv' := [(7, .int (nI ((pp + 1) % (ih_pl T)))), (0, .ref (w.2.2 0)), (1, .int (nI sn)), (2, .int (nI pn)), (3, .int (nI nn)), (4, .int (nI rn_)), (5, .int (nI kk)), (6, .int (nI pp))]) C dX8_likely_61 (by decide) rfl ?_
                  refine s_iconst (v := nI 0) C dX8_likely_63 (by decide) ?_
                  refine s_istore (lv' := [(8, .int (nI 0)), (7, .int (nI ((pp + 1) % (ih_pl T)))), (0, .ref (w.2.2 0)), (1, .int (nI sn)), (2, .int (nI pn)), (3, .int (nI nn)), (4, .int (nI rn_)), (5, .int (nI kk)), (6, .int (nI pp))]) C dX8_likely_64 (by decide) rfl ?_
                  have hx_66 : ∀ S, ih_RM S T ∧ ih_LT S.1 (decide (rn_ = 9)) (ih_cc T) (ih_pl T) kk pp (25) 0 → ih_Mw x w ih_shM A Q 18 0 0 309 [(0, .ref (w.2.2 0)), (1, .int (nI sn)), (2, .int (nI pn)), (3, .int (nI nn)), (4, .int (nI rn_)), (5, .int (nI kk)), (6, .int (nI pp)), (7, .int (nI ((pp + 1) % ih_pl T))), (8, .int (nI 25))] [] S := by
                    intro S ⟨hM, ht⟩
                    refine s_iinc (u := nI (pp + 1)) (lv' := [(6, .int (nI (pp + 1))), (0, .ref (w.2.2 0)), (1, .int (nI sn)), (2, .int (nI pn)), (3, .int (nI nn)), (4, .int (nI rn_)), (5, .int (nI kk)), (7, .int (nI ((pp + 1) % ih_pl T))), (8, .int (nI 25))]) C 6 dX8_likely_309 rfl (ih_incN (by decide)) (by decide) rfl ?_
                    refine s_goto C 43 dX8_likely_312 (by decide) ?_
                    refine s_perm [1, 2, 3, 4, 5, 6, 0] rfl ?_
                    exact ih_43 (pp + 1) (by omega) _ ⟨hM, ih_LT_p ht⟩
                  have loop_66 : ∀ (fu ss : Nat), ss + fu = 25 → ∀ S, ih_RM S T ∧ ih_LT S.1 (decide (rn_ = 9)) (ih_cc T) (ih_pl T) kk pp (ss) 0 → ih_Mw x w ih_shM A Q 18 0 0 66 [(0, .ref (w.2.2 0)), (1, .int (nI sn)), (2, .int (nI pn)), (3, .int (nI nn)), (4, .int (nI rn_)), (5, .int (nI kk)), (6, .int (nI pp)), (7, .int (nI ((pp + 1) % ih_pl T))), (8, .int (nI ss))] [] S := by
                    intro fu
                    induction fu with
                    | zero =>
                      intro ss hsse S ⟨hM, ht⟩
                      have hss0 : ss = 25 := by omega
                      refine s_iload C 8 dX8_likely_66 rfl ?_
                      refine s_bipush (v := nI 25) C dX8_likely_68 (by decide) ?_
                      refine s_icmp_geN 309 C dX8_likely_70 (by decide) (by omega) (by omega) (fun h70 => ?_) (fun h70 => ?_)
                      · subst hss0
                        exact hx_66 _ ⟨hM, ht⟩
                      · exfalso; omega
                    | succ fu ih_66 =>
                      intro ss hsse S ⟨hM, ht⟩
                      have hssl : ss < 25 := by omega
                      refine s_iload C 8 dX8_likely_66 rfl ?_
                      refine s_bipush (v := nI 25) C dX8_likely_68 (by decide) ?_
                      refine s_icmp_geN 309 C dX8_likely_70 (by decide) (by omega) (by omega) (fun h70 => ?_) (fun h70 => ?_)
                      · exfalso; omega
                      · refine s_iconst (v := nI 0) C dX8_likely_73 (by decide) ?_
                        refine s_istore (lv' := [(9, .int (nI 0)), (0, .ref (w.2.2 0)), (1, .int (nI sn)), (2, .int (nI pn)), (3, .int (nI nn)), (4, .int (nI rn_)), (5, .int (nI kk)), (6, .int (nI pp)), (7, .int (nI ((pp + 1) % ih_pl T))), (8, .int (nI ss))]) C dX8_likely_74 (by decide) rfl ?_
                        have hx_76 : ∀ S, ih_RM S T ∧ ih_LT S.1 (decide (rn_ = 9)) (ih_cc T) (ih_pl T) kk pp ss (10) → ih_Mw x w ih_shM A Q 18 0 0 303 [(0, .ref (w.2.2 0)), (1, .int (nI sn)), (2, .int (nI pn)), (3, .int (nI nn)), (4, .int (nI rn_)), (5, .int (nI kk)), (6, .int (nI pp)), (7, .int (nI ((pp + 1) % ih_pl T))), (8, .int (nI ss)), (9, .int (nI 10))] [] S := by
                          intro S ⟨hM, ht⟩
                          refine s_iinc (u := nI (ss + 1)) (lv' := [(8, .int (nI (ss + 1))), (0, .ref (w.2.2 0)), (1, .int (nI sn)), (2, .int (nI pn)), (3, .int (nI nn)), (4, .int (nI rn_)), (5, .int (nI kk)), (6, .int (nI pp)), (7, .int (nI ((pp + 1) % ih_pl T))), (9, .int (nI 10))]) C 8 dX8_likely_303 rfl (ih_incN (by decide)) (by decide) rfl ?_
                          refine s_goto C 66 dX8_likely_306 (by decide) ?_
                          refine s_perm [1, 2, 3, 4, 5, 6, 7, 8, 0] rfl ?_
                          exact ih_66 (ss + 1) (by omega) _ ⟨hM, ih_LT_s ht⟩
                        have loop_76 : ∀ (fu oo : Nat), oo + fu = 10 → ∀ S, ih_RM S T ∧ ih_LT S.1 (decide (rn_ = 9)) (ih_cc T) (ih_pl T) kk pp ss (oo) → ih_Mw x w ih_shM A Q 18 0 0 76 [(0, .ref (w.2.2 0)), (1, .int (nI sn)), (2, .int (nI pn)), (3, .int (nI nn)), (4, .int (nI rn_)), (5, .int (nI kk)), (6, .int (nI pp)), (7, .int (nI ((pp + 1) % ih_pl T))), (8, .int (nI ss)), (9, .int (nI oo))] [] S := by
                          intro fu
                          induction fu with
                          | zero =>
                            intro oo hooe S ⟨hM, ht⟩
                            have hoo0 : oo = 10 := by omega
                            refine s_iload C 9 dX8_likely_76 rfl ?_
                            refine s_bipush (v := nI 10) C dX8_likely_78 (by decide) ?_
                            refine s_icmp_geN 303 C dX8_likely_80 (by decide) (by omega) (by omega) (fun h80 => ?_) (fun h80 => ?_)
                            · subst hoo0
                              exact hx_76 _ ⟨hM, ht⟩
                            · exfalso; omega
                          | succ fu ih_76 =>
                            intro oo hooe S ⟨hM, ht⟩
                            have hool : oo < 10 := by omega
                            refine s_iload C 9 dX8_likely_76 rfl ?_
                            refine s_bipush (v := nI 10) C dX8_likely_78 (by decide) ?_
                            refine s_icmp_geN 303 C dX8_likely_80 (by decide) (by omega) (by omega) (fun h80 => ?_) (fun h80 => ?_)
                            · exfalso; omega
                            · refine s_bipush (v := nI 10) C dX8_likely_83 (by decide) ?_
                              refine s_sipush (v := nI 225) C dX8_likely_85 (by decide) ?_
                              refine s_iload C 5 dX8_likely_88 rfl ?_
                              refine s_imulN C dX8_likely_90 ?_
                              refine s_bipush (v := nI 25) C dX8_likely_91 (by decide) ?_
                              refine s_iload C 6 dX8_likely_93 rfl ?_
                              refine s_imulN C dX8_likely_95 ?_
                              refine s_iaddN C dX8_likely_96 ?_
                              refine s_iload C 8 dX8_likely_97 rfl ?_
                              refine s_iaddN C dX8_likely_99 ?_
                              refine s_imulN C dX8_likely_100 ?_
                              refine s_iload C 9 dX8_likely_101 rfl ?_
                              refine s_iaddN C dX8_likely_103 ?_
                              refine s_istore (lv' := [(10, .int (nI ((10 * (((225 * kk) + (25 * pp)) + ss)) + oo))), (0, .ref (w.2.2 0)), (1, .int (nI sn)), (2, .int (nI pn)), (3, .int (nI nn)), (4, .int (nI rn_)), (5, .int (nI kk)), (6, .int (nI pp)), (7, .int (nI ((pp + 1) % ih_pl T))), (8, .int (nI ss)), (9, .int (nI oo))]) C dX8_likely_104 (by decide) rfl ?_
                              refine s_lconst (v := lN 0) C dX8_likely_106 rfl ?_
                              refine s_lstore (lv' := [(11, .long (lN (0))), (10, .int (nI ((10 * (((225 * kk) + (25 * pp)) + ss)) + oo))), (0, .ref (w.2.2 0)), (1, .int (nI sn)), (2, .int (nI pn)), (3, .int (nI nn)), (4, .int (nI rn_)), (5, .int (nI kk)), (6, .int (nI pp)), (7, .int (nI ((pp + 1) % ih_pl T))), (8, .int (nI ss)), (9, .int (nI oo))]) C dX8_likely_107 (by decide) rfl ?_
                              refine s_iconst (v := nI 0) C dX8_likely_109 (by decide) ?_
                              refine s_istore (lv' := [(13, .int (nI 0)), (11, .long (lN (0))), (10, .int (nI ((10 * (((225 * kk) + (25 * pp)) + ss)) + oo))), (0, .ref (w.2.2 0)), (1, .int (nI sn)), (2, .int (nI pn)), (3, .int (nI nn)), (4, .int (nI rn_)), (5, .int (nI kk)), (6, .int (nI pp)), (7, .int (nI ((pp + 1) % ih_pl T))), (8, .int (nI ss)), (9, .int (nI oo))]) C dX8_likely_110 (by decide) rfl ?_
                              by_cases hns : 0 < kk ∧ ss < 24
                              · have hx_112 : ∀ S, ih_RM S T ∧ ih_LT S.1 (decide (rn_ = 9)) (ih_cc T) (ih_pl T) kk pp ss oo → ih_Mw x w ih_shM A Q 18 0 0 257 [(0, .ref (w.2.2 0)), (1, .int (nI sn)), (2, .int (nI pn)), (3, .int (nI nn)), (4, .int (nI rn_)), (5, .int (nI kk)), (6, .int (nI pp)), (7, .int (nI ((pp + 1) % ih_pl T))), (8, .int (nI ss)), (9, .int (nI oo)), (10, .int (nI (10 * (225 * kk + 25 * pp + ss) + oo))), (11, .long (lN (ih_sum (ih_lf (decide (rn_ = 9)) (ih_cc T) (ih_pl T) (kk - 1) pp ss oo) (6)))), (13, .int (nI 6))] [] S := by
                                  intro S ⟨hM, ht⟩
                                  have hsb := ih_lf_le (b := (decide (rn_ = 9))) (n := kk - 1) (s := ss) (r := oo) hpl0 hok hpl (Nat.le_refl 6)
                                  refine s_aload_n C 0 dX8_likely_257 rfl ?_
                                  refine s_getR C 8 10 (hM.1 _ _ _ rfl) (by decide) rfl (by decide) rfl (fun _ h => List.mem_cons_of_mem _ (List.mem_append_right _ h)) (by decide) rfl (by decide +kernel) dX8_likely_258 ?_
                                  refine s_iload C 10 dX8_likely_261 rfl ?_
                                  refine s_iload C 5 dX8_likely_263 rfl ?_
                                  refine s_if_eqN 275 C dX8_likely_265 (by decide) (by omega) (fun h265 => ?_) (fun h265 => ?_)
                                  · exfalso; omega
                                  · refine s_iload C 8 dX8_likely_268 rfl ?_
                                    refine s_bipush (v := nI 24) C dX8_likely_270 (by decide) ?_
                                    refine s_icmp_neN 289 C dX8_likely_272 (by decide) (by omega) (by omega) (fun h272 => ?_) (fun h272 => ?_)
                                    · refine s_lload C 11 dX8_likely_289 rfl ?_
                                      refine s_ldc2 (v := lN 1000) C (by decide +kernel) dX8_likely_291 ?_
                                      refine s_ldivN C dX8_likely_294 (by omega) (by omega) (by omega) ?_
                                      refine s_l2iN C dX8_likely_295 ?_
                                      refine s_iastore C 69750 (10 * (225 * kk + 25 * pp + ss) + oo) rfl rfl (by omega) (by decide) (by decide) rfl dX8_likely_296 ?_
                                      refine s_iinc (u := nI (oo + 1)) (lv' := [(9, .int (nI (oo + 1))), (0, .ref (w.2.2 0)), (1, .int (nI sn)), (2, .int (nI pn)), (3, .int (nI nn)), (4, .int (nI rn_)), (5, .int (nI kk)), (6, .int (nI pp)), (7, .int (nI ((pp + 1) % ih_pl T))), (8, .int (nI ss)), (10, .int (nI (10 * (225 * kk + 25 * pp + ss) + oo))), (11, .long (lN (ih_sum (ih_lf (decide (rn_ = 9)) (ih_cc T) (ih_pl T) (kk - 1) pp ss oo) (6)))), (13, .int (nI 6))]) C 9 dX8_likely_297 rfl (ih_incN (by decide)) (by decide) rfl ?_
                                      refine s_goto C 76 dX8_likely_300 (by decide) ?_
                                      refine s_perm [1, 2, 3, 4, 5, 6, 7, 8, 9, 0] rfl ?_
                                      exact ih_76 (oo + 1) (by omega) _ ⟨ih_RM_h hM rfl, ih_LT_w ht (by first | (exfalso; omega) | (rw [ih_lk_p hns.1 hns.2]) | (rw [ih_lk_n hns, if_pos (by omega)]) | (rw [ih_lk_n hns, if_neg (by omega)])) hpl9 hpl (by omega) (by omega)⟩
                                    · exfalso; omega
                                have loop_112 : ∀ (fu a : Nat), a + fu = 6 → ∀ S, ih_RM S T ∧ ih_LT S.1 (decide (rn_ = 9)) (ih_cc T) (ih_pl T) kk pp ss oo → ih_Mw x w ih_shM A Q 18 0 0 112 [(0, .ref (w.2.2 0)), (1, .int (nI sn)), (2, .int (nI pn)), (3, .int (nI nn)), (4, .int (nI rn_)), (5, .int (nI kk)), (6, .int (nI pp)), (7, .int (nI ((pp + 1) % ih_pl T))), (8, .int (nI ss)), (9, .int (nI oo)), (10, .int (nI (10 * (225 * kk + 25 * pp + ss) + oo))), (11, .long (lN (ih_sum (ih_lf (decide (rn_ = 9)) (ih_cc T) (ih_pl T) (kk - 1) pp ss oo) (a)))), (13, .int (nI a))] [] S := by
                                  intro fu
                                  induction fu with
                                  | zero =>
                                    intro a hae S ⟨hM, ht⟩
                                    have ha0 : a = 6 := by omega
                                    refine s_iload C 12 dX8_likely_112 rfl ?_
                                    refine s_bipush (v := nI 6) C dX8_likely_114 (by decide) ?_
                                    refine s_icmp_geN 257 C dX8_likely_116 (by decide) (by omega) (by omega) (fun h116 => ?_) (fun h116 => ?_)
                                    · subst ha0
                                      exact hx_112 _ ⟨hM, ht⟩
                                    · exfalso; omega
                                  | succ fu ih_112 =>
                                    intro a hae S ⟨hM, ht⟩
                                    have hal : a < 6 := by omega
                                    refine s_iload C 12 dX8_likely_112 rfl ?_
                                    refine s_bipush (v := nI 6) C dX8_likely_114 (by decide) ?_
                                    refine s_icmp_geN 257 C dX8_likely_116 (by decide) (by omega) (by omega) (fun h116 => ?_) (fun h116 => ?_)
                                    · exfalso; omega
                                    · refine s_iload C 5 dX8_likely_119 rfl ?_
                                      refine s_if_leN 257 C dX8_likely_121 (by decide) (by omega) (fun h121 => ?_) (fun h121 => ?_)
                                      · exfalso; omega
                                      · refine s_iload C 8 dX8_likely_124 rfl ?_
                                        refine s_bipush (v := nI 24) C dX8_likely_126 (by decide) ?_
                                        refine s_icmp_geN 257 C dX8_likely_128 (by decide) (by omega) (by omega) (fun h128 => ?_) (fun h128 => ?_)
                                        · exfalso; omega
                                        · refine s_iload C 9 dX8_likely_131 rfl ?_
                                          refine s_iload C 8 dX8_likely_133 rfl ?_
                                          refine s_iload C 12 dX8_likely_135 rfl ?_
                                          refine s_callSi 2 C (c_X8_runs _ w _ ss a hns.2 (by omega)) gX8_likely_X8_runs rfl (by decide +kernel) (by decide) (by decide) rfl rfl (Nat.le_of_ble_eq_true rfl) dX8_likely_137 ?_
                                          rintro rr S2 ⟨hrr, rfl⟩
                                          subst hrr
                                          have hrn := ih_rn_le ss hns.2 a (by omega)
                                          refine s_isub C dX8_likely_140  ?_
                                          by_cases hof : ih_rn ss a ≤ oo
                                          · refine s_toe (pk_sub hof) ?_
                                            refine s_istore (lv' := [(14, .int (nI (oo - ih_rn ss a))), (0, .ref (w.2.2 0)), (1, .int (nI sn)), (2, .int (nI pn)), (3, .int (nI nn)), (4, .int (nI rn_)), (5, .int (nI kk)), (6, .int (nI pp)), (7, .int (nI ((pp + 1) % ih_pl T))), (8, .int (nI ss)), (9, .int (nI oo)), (10, .int (nI (10 * (225 * kk + 25 * pp + ss) + oo))), (11, .long (lN (ih_sum (ih_lf (decide (rn_ = 9)) (ih_cc T) (ih_pl T) (kk - 1) pp ss oo) (a)))), (13, .int (nI a))]) C dX8_likely_141 (by decide) rfl ?_
                                            refine s_bipush (v := nI 10) C dX8_likely_143 (by decide) ?_
                                            refine s_sipush (v := nI 225) C dX8_likely_145 (by decide) ?_
                                            refine s_iload C 6 dX8_likely_148 rfl ?_
                                            refine s_iconst (v := nI 1) C dX8_likely_150 (by decide) ?_
                                            refine s_isubN C dX8_likely_151 (by omega) ?_
                                            refine s_imulN C dX8_likely_152 ?_
                                            refine s_bipush (v := nI 25) C dX8_likely_153 (by decide) ?_
                                            refine s_iload C 8 dX8_likely_155 rfl ?_
                                            refine s_imulN C dX8_likely_157 ?_
                                            refine s_iaddN C dX8_likely_158 ?_
                                            refine s_iload C 9 dX8_likely_159 rfl ?_
                                            refine s_iload C 13 dX8_likely_161 rfl ?_
                                            refine s_callSi 2 C (c_X8_next _ w _ ss a hns.2 (by omega)) gX8_likely_X8_next rfl (by decide +kernel) (by decide) (by decide) rfl rfl (Nat.le_of_ble_eq_true rfl) dX8_likely_163 ?_
                                            rintro rr S2 ⟨hrr, rfl⟩
                                            subst hrr
                                            have hnx := ih_nx_le ss hns.2 a (by omega)
                                            refine s_iaddN C dX8_likely_166 ?_
                                            refine s_imulN C dX8_likely_167 ?_
                                            refine s_istore (lv' := [(15, .int (nI (10 * (((225 * (kk - 1)) + (25 * ((pp + 1) % ih_pl T))) + (ih_nx ss a))))), (14, .int (nI (oo - ih_rn ss a))), (0, .ref (w.2.2 0)), (1, .int (nI sn)), (2, .int (nI pn)), (3, .int (nI nn)), (4, .int (nI rn_)), (5, .int (nI kk)), (6, .int (nI pp)), (7, .int (nI ((pp + 1) % ih_pl T))), (8, .int (nI ss)), (9, .int (nI oo)), (10, .int (nI (10 * (225 * kk + 25 * pp + ss) + oo))), (11, .long (lN (ih_sum (ih_lf (decide (rn_ = 9)) (ih_cc T) (ih_pl T) (kk - 1) pp ss oo) (a)))), (13, .int (nI a))]) C dX8_likely_168 (by decide) rfl ?_
                                            refine s_iload C 6 dX8_likely_170 rfl ?_
                                            refine s_bipush (v := nI 9) C dX8_likely_172 (by decide) ?_
                                            refine s_icmp_neN 202 C dX8_likely_174 (by decide) (by omega) (by omega) (fun h174 => ?_) (fun h174 => ?_)
                                            · refine s_iload C 1 dX8_likely_202 rfl ?_
                                              refine s_if_geN 211 C dX8_likely_204 (by decide) (by omega) (fun h204 => ?_) (fun h204 => ?_)
                                              · refine s_aload_n C 2 dX8_likely_211 rfl ?_
                                                refine s_getR C 8 10 (hM.1 _ _ _ rfl) (by decide) rfl (by decide) rfl (fun _ h => List.mem_cons_of_mem _ (List.mem_append_right _ h)) (by decide) rfl (by decide +kernel) dX8_likely_212 ?_
                                                refine s_iload C 0 dX8_likely_215 rfl ?_
                                                refine s_iload C 1 dX8_likely_217 rfl ?_
                                                refine s_iaddN C dX8_likely_219 ?_
                                                refine s_iaload C 69750 ((10 * (((225 * (kk - 1)) + (25 * ((pp + 1) % ih_pl T))) + (ih_nx ss a))) + (oo - ih_rn ss a)) rfl rfl (by omega) (by decide) (by decide) rfl dX8_likely_220 ?_
                                                have hlb := ih_lk_le (b := (decide (rn_ = 9))) hpl0 hok (kk - 1) ((pp + 1) % ih_pl T) (ih_nx ss a) (oo - ih_rn ss a) (Nat.mod_lt _ hpl0)
                                                refine s_toe (b := nI (ih_lk (decide (rn_ = 9)) (ih_cc T) (ih_pl T) (kk - 1) ((pp + 1) % ih_pl T) (ih_nx ss a) (oo - ih_rn ss a))) (ht _ _ _ _ (Nat.mod_lt _ hpl0) (by omega) (by omega) (Or.inl (by omega))) ?_
                                                refine s_i2lN C dX8_likely_221 (by omega) ?_
                                                refine s_tol (b := lN (if oo < ih_rn ss a then (if (decide (rn_ = 9)) = true then 1000000 else 0) else ih_lk (decide (rn_ = 9)) (ih_cc T) (ih_pl T) (kk - 1) ((pp + 1) % ih_pl T) (ih_nx ss a) (oo - ih_rn ss a))) (congrArg lN (by rw [if_neg (by omega)])) ?_
                                                refine s_lstore (lv' := [(16, .long (lN (if oo < ih_rn ss a then (if (decide (rn_ = 9)) = true then 1000000 else 0) else ih_lk (decide (rn_ = 9)) (ih_cc T) (ih_pl T) (kk - 1) ((pp + 1) % ih_pl T) (ih_nx ss a) (oo - ih_rn ss a)))), (15, .int (nI (10 * (((225 * (kk - 1)) + (25 * ((pp + 1) % ih_pl T))) + (ih_nx ss a))))), (14, .int (nI (oo - ih_rn ss a))), (0, .ref (w.2.2 0)), (1, .int (nI sn)), (2, .int (nI pn)), (3, .int (nI nn)), (4, .int (nI rn_)), (5, .int (nI kk)), (6, .int (nI pp)), (7, .int (nI ((pp + 1) % ih_pl T))), (8, .int (nI ss)), (9, .int (nI oo)), (10, .int (nI (10 * (225 * kk + 25 * pp + ss) + oo))), (11, .long (lN (ih_sum (ih_lf (decide (rn_ = 9)) (ih_cc T) (ih_pl T) (kk - 1) pp ss oo) (a)))), (13, .int (nI a))]) C dX8_likely_222 (by decide) rfl ?_
                                                refine s_lload C 14 dX8_likely_224 rfl ?_
                                                refine s_aload_n C 3 dX8_likely_226 rfl ?_
                                                refine s_getR C 8 6 (hM.1 _ _ _ rfl) (by decide) rfl (by decide) rfl (fun _ h => List.mem_cons_of_mem _ (List.mem_append_right _ h)) (by decide) rfl (by decide +kernel) dX8_likely_227 ?_
                                                refine s_bipush (v := nI 7) C dX8_likely_230 (by decide) ?_
                                                refine s_aload_n C 3 dX8_likely_232 rfl ?_
                                                refine s_getR C 8 8 (hM.1 _ _ _ rfl) (by decide) rfl (by decide) rfl (fun _ h => List.mem_cons_of_mem _ (List.mem_append_right _ h)) (by decide) rfl (by decide +kernel) dX8_likely_233 ?_
                                                refine s_iload C 9 dX8_likely_236 rfl ?_
                                                refine s_iaload C 9 (pp) rfl rfl (by omega) (by decide) (by decide) rfl dX8_likely_238 ?_
                                                refine s_toe (b := T 5 pp) (hM.2 _ _ rfl) ?_
                                                refine s_toe (b := nI (ih_or T pp)) (hI.2.2.1.2.2 pp hpl).1 ?_
                                                refine s_imulN C dX8_likely_239 ?_
                                                refine s_iload C 15 dX8_likely_240 rfl ?_
                                                refine s_iaddN C dX8_likely_242 ?_
                                                refine s_iaload C 84 ((7 * (ih_or T pp)) + a) rfl rfl (by omega) (by decide) (by decide) rfl dX8_likely_243 ?_
                                                refine s_toe (b := T 4 ((7 * (ih_or T pp)) + a)) (hM.2 _ _ rfl) ?_
                                                refine s_toe (b := nI (ih_cc T pp a)) (ih_cc_e hI hpl (by omega)).1 ?_
                                                have hcb := (ih_cc_e hI (a := a) hpl (by omega)).2
                                                refine s_i2lN C dX8_likely_244 (by omega) ?_
                                                refine s_lload C 0 dX8_likely_245 rfl ?_
                                                refine s_lmulN C dX8_likely_247 ?_
                                                refine s_laddN C dX8_likely_248 ?_
                                                refine s_tol (b := lN (ih_sum (ih_lf (decide (rn_ = 9)) (ih_cc T) (ih_pl T) (kk - 1) pp ss oo) (a + 1))) rfl ?_
                                                refine s_lstore (lv' := [(11, .long (lN (ih_sum (ih_lf (decide (rn_ = 9)) (ih_cc T) (ih_pl T) (kk - 1) pp ss oo) (a + 1)))), (16, .long (lN (if oo < ih_rn ss a then (if (decide (rn_ = 9)) = true then 1000000 else 0) else ih_lk (decide (rn_ = 9)) (ih_cc T) (ih_pl T) (kk - 1) ((pp + 1) % ih_pl T) (ih_nx ss a) (oo - ih_rn ss a)))), (15, .int (nI (10 * (((225 * (kk - 1)) + (25 * ((pp + 1) % ih_pl T))) + (ih_nx ss a))))), (14, .int (nI (oo - ih_rn ss a))), (0, .ref (w.2.2 0)), (1, .int (nI sn)), (2, .int (nI pn)), (3, .int (nI nn)), (4, .int (nI rn_)), (5, .int (nI kk)), (6, .int (nI pp)), (7, .int (nI ((pp + 1) % ih_pl T))), (8, .int (nI ss)), (9, .int (nI oo)), (10, .int (nI (10 * (225 * kk + 25 * pp + ss) + oo))), (13, .int (nI a))]) C dX8_likely_249 (by decide) rfl ?_
                                                refine s_iinc (u := nI (a + 1)) (lv' := [(13, .int (nI (a + 1))), (11, .long (lN (ih_sum (ih_lf (decide (rn_ = 9)) (ih_cc T) (ih_pl T) (kk - 1) pp ss oo) (a + 1)))), (16, .long (lN (if oo < ih_rn ss a then (if (decide (rn_ = 9)) = true then 1000000 else 0) else ih_lk (decide (rn_ = 9)) (ih_cc T) (ih_pl T) (kk - 1) ((pp + 1) % ih_pl T) (ih_nx ss a) (oo - ih_rn ss a)))), (15, .int (nI (10 * (((225 * (kk - 1)) + (25 * ((pp + 1) % ih_pl T))) + (ih_nx ss a))))), (14, .int (nI (oo - ih_rn ss a))), (0, .ref (w.2.2 0)), (1, .int (nI sn)), (2, .int (nI pn)), (3, .int (nI nn)), (4, .int (nI rn_)), (5, .int (nI kk)), (6, .int (nI pp)), (7, .int (nI ((pp + 1) % ih_pl T))), (8, .int (nI ss)), (9, .int (nI oo)), (10, .int (nI (10 * (225 * kk + 25 * pp + ss) + oo)))]) C 15 dX8_likely_251 rfl (ih_incN (by decide)) (by decide) rfl ?_
                                                refine s_goto C 112 dX8_likely_254 (by decide) ?_
                                                refine s_perm [5, 6, 7, 8, 9, 10, 11, 12, 13, 14, 15, 1, 0] rfl ?_
                                                exact ih_112 (a + 1) (by omega) _ ⟨hM, ht⟩
                                              · exfalso; omega
                                            · refine s_iload C 1 dX8_likely_177 rfl ?_
                                              refine s_if_gtN 188 C dX8_likely_179 (by decide) (by omega) (fun h179 => ?_) (fun h179 => ?_)
                                              · refine s_aload_n C 2 dX8_likely_188 rfl ?_
                                                refine s_getR C 8 10 (hM.1 _ _ _ rfl) (by decide) rfl (by decide) rfl (fun _ h => List.mem_cons_of_mem _ (List.mem_append_right _ h)) (by decide) rfl (by decide +kernel) dX8_likely_189 ?_
                                                refine s_iload C 0 dX8_likely_192 rfl ?_
                                                refine s_iload C 1 dX8_likely_194 rfl ?_
                                                refine s_iaddN C dX8_likely_196 ?_
                                                refine s_iaload C 69750 ((10 * (((225 * (kk - 1)) + (25 * ((pp + 1) % ih_pl T))) + (ih_nx ss a))) + (oo - ih_rn ss a)) rfl rfl (by omega) (by decide) (by decide) rfl dX8_likely_197 ?_
                                                have hlb := ih_lk_le (b := (decide (rn_ = 9))) hpl0 hok (kk - 1) ((pp + 1) % ih_pl T) (ih_nx ss a) (oo - ih_rn ss a) (Nat.mod_lt _ hpl0)
                                                refine s_toe (b := nI (ih_lk (decide (rn_ = 9)) (ih_cc T) (ih_pl T) (kk - 1) ((pp + 1) % ih_pl T) (ih_nx ss a) (oo - ih_rn ss a))) (ht _ _ _ _ (Nat.mod_lt _ hpl0) (by omega) (by omega) (Or.inl (by omega))) ?_
                                                refine s_i2lN C dX8_likely_198 (by omega) ?_
                                                refine s_goto C 222 dX8_likely_199 (by decide) ?_
                                                refine s_tol (b := lN (if oo < ih_rn ss a then (if (decide (rn_ = 9)) = true then 1000000 else 0) else ih_lk (decide (rn_ = 9)) (ih_cc T) (ih_pl T) (kk - 1) ((pp + 1) % ih_pl T) (ih_nx ss a) (oo - ih_rn ss a))) (congrArg lN (by rw [if_neg (by omega)])) ?_
                                                refine s_lstore (lv' := [(16, .long (lN (if oo < ih_rn ss a then (if (decide (rn_ = 9)) = true then 1000000 else 0) else ih_lk (decide (rn_ = 9)) (ih_cc T) (ih_pl T) (kk - 1) ((pp + 1) % ih_pl T) (ih_nx ss a) (oo - ih_rn ss a)))), (15, .int (nI (10 * (((225 * (kk - 1)) + (25 * ((pp + 1) % ih_pl T))) + (ih_nx ss a))))), (14, .int (nI (oo - ih_rn ss a))), (0, .ref (w.2.2 0)), (1, .int (nI sn)), (2, .int (nI pn)), (3, .int (nI nn)), (4, .int (nI rn_)), (5, .int (nI kk)), (6, .int (nI pp)), (7, .int (nI ((pp + 1) % ih_pl T))), (8, .int (nI ss)), (9, .int (nI oo)), (10, .int (nI (10 * (225 * kk + 25 * pp + ss) + oo))), (11, .long (lN (ih_sum (ih_lf (decide (rn_ = 9)) (ih_cc T) (ih_pl T) (kk - 1) pp ss oo) (a)))), (13, .int (nI a))]) C dX8_likely_222 (by decide) rfl ?_
                                                refine s_lload C 14 dX8_likely_224 rfl ?_
                                                refine s_aload_n C 3 dX8_likely_226 rfl ?_
                                                refine s_getR C 8 6 (hM.1 _ _ _ rfl) (by decide) rfl (by decide) rfl (fun _ h => List.mem_cons_of_mem _ (List.mem_append_right _ h)) (by decide) rfl (by decide +kernel) dX8_likely_227 ?_
                                                refine s_bipush (v := nI 7) C dX8_likely_230 (by decide) ?_
                                                refine s_aload_n C 3 dX8_likely_232 rfl ?_
                                                refine s_getR C 8 8 (hM.1 _ _ _ rfl) (by decide) rfl (by decide) rfl (fun _ h => List.mem_cons_of_mem _ (List.mem_append_right _ h)) (by decide) rfl (by decide +kernel) dX8_likely_233 ?_
                                                refine s_iload C 9 dX8_likely_236 rfl ?_
                                                refine s_iaload C 9 (pp) rfl rfl (by omega) (by decide) (by decide) rfl dX8_likely_238 ?_
                                                refine s_toe (b := T 5 pp) (hM.2 _ _ rfl) ?_
                                                refine s_toe (b := nI (ih_or T pp)) (hI.2.2.1.2.2 pp hpl).1 ?_
                                                refine s_imulN C dX8_likely_239 ?_
                                                refine s_iload C 15 dX8_likely_240 rfl ?_
                                                refine s_iaddN C dX8_likely_242 ?_
                                                refine s_iaload C 84 ((7 * (ih_or T pp)) + a) rfl rfl (by omega) (by decide) (by decide) rfl dX8_likely_243 ?_
                                                refine s_toe (b := T 4 ((7 * (ih_or T pp)) + a)) (hM.2 _ _ rfl) ?_
                                                refine s_toe (b := nI (ih_cc T pp a)) (ih_cc_e hI hpl (by omega)).1 ?_
                                                have hcb := (ih_cc_e hI (a := a) hpl (by omega)).2
                                                refine s_i2lN C dX8_likely_244 (by omega) ?_
                                                refine s_lload C 0 dX8_likely_245 rfl ?_
                                                refine s_lmulN C dX8_likely_247 ?_
                                                refine s_laddN C dX8_likely_248 ?_
                                                refine s_tol (b := lN (ih_sum (ih_lf (decide (rn_ = 9)) (ih_cc T) (ih_pl T) (kk - 1) pp ss oo) (a + 1))) rfl ?_
                                                refine s_lstore (lv' := [(11, .long (lN (ih_sum (ih_lf (decide (rn_ = 9)) (ih_cc T) (ih_pl T) (kk - 1) pp ss oo) (a + 1)))), (16, .long (lN (if oo < ih_rn ss a then (if (decide (rn_ = 9)) = true then 1000000 else 0) else ih_lk (decide (rn_ = 9)) (ih_cc T) (ih_pl T) (kk - 1) ((pp + 1) % ih_pl T) (ih_nx ss a) (oo - ih_rn ss a)))), (15, .int (nI (10 * (((225 * (kk - 1)) + (25 * ((pp + 1) % ih_pl T))) + (ih_nx ss a))))), (14, .int (nI (oo - ih_rn ss a))), (0, .ref (w.2.2 0)), (1, .int (nI sn)), (2, .int (nI pn)), (3, .int (nI nn)), (4, .int (nI rn_)), (5, .int (nI kk)), (6, .int (nI pp)), (7, .int (nI ((pp + 1) % ih_pl T))), (8, .int (nI ss)), (9, .int (nI oo)), (10, .int (nI (10 * (225 * kk + 25 * pp + ss) + oo))), (13, .int (nI a))]) C dX8_likely_249 (by decide) rfl ?_
                                                refine s_iinc (u := nI (a + 1)) (lv' := [(13, .int (nI (a + 1))), (11, .long (lN (ih_sum (ih_lf (decide (rn_ = 9)) (ih_cc T) (ih_pl T) (kk - 1) pp ss oo) (a + 1)))), (16, .long (lN (if oo < ih_rn ss a then (if (decide (rn_ = 9)) = true then 1000000 else 0) else ih_lk (decide (rn_ = 9)) (ih_cc T) (ih_pl T) (kk - 1) ((pp + 1) % ih_pl T) (ih_nx ss a) (oo - ih_rn ss a)))), (15, .int (nI (10 * (((225 * (kk - 1)) + (25 * ((pp + 1) % ih_pl T))) + (ih_nx ss a))))), (14, .int (nI (oo - ih_rn ss a))), (0, .ref (w.2.2 0)), (1, .int (nI sn)), (2, .int (nI pn)), (3, .int (nI nn)), (4, .int (nI rn_)), (5, .int (nI kk)), (6, .int (nI pp)), (7, .int (nI ((pp + 1) % ih_pl T))), (8, .int (nI ss)), (9, .int (nI oo)), (10, .int (nI (10 * (225 * kk + 25 * pp + ss) + oo)))]) C 15 dX8_likely_251 rfl (ih_incN (by decide)) (by decide) rfl ?_
                                                refine s_goto C 112 dX8_likely_254 (by decide) ?_
                                                refine s_perm [5, 6, 7, 8, 9, 10, 11, 12, 13, 14, 15, 1, 0] rfl ?_
                                                exact ih_112 (a + 1) (by omega) _ ⟨hM, ht⟩
                                              · refine s_ldc2 (v := lN 1000000) C (by decide +kernel) dX8_likely_182 ?_
                                                refine s_goto C 222 dX8_likely_185 (by decide) ?_
                                                refine s_tol (b := lN (if oo < ih_rn ss a then (if (decide (rn_ = 9)) = true then 1000000 else 0) else ih_lk (decide (rn_ = 9)) (ih_cc T) (ih_pl T) (kk - 1) ((pp + 1) % ih_pl T) (ih_nx ss a) (oo - ih_rn ss a))) (congrArg lN (by rw [if_neg (by omega), show oo - ih_rn ss a = 0 by omega, show decide (rn_ = 9) = true by rw [decide_eq_true_eq]; omega, ih_lk_0 hpl0 hok _ _ _ (Nat.mod_lt _ hpl0)])) ?_
                                                refine s_lstore (lv' := [(16, .long (lN (if oo < ih_rn ss a then (if (decide (rn_ = 9)) = true then 1000000 else 0) else ih_lk (decide (rn_ = 9)) (ih_cc T) (ih_pl T) (kk - 1) ((pp + 1) % ih_pl T) (ih_nx ss a) (oo - ih_rn ss a)))), (15, .int (nI (10 * (((225 * (kk - 1)) + (25 * ((pp + 1) % ih_pl T))) + (ih_nx ss a))))), (14, .int (nI (oo - ih_rn ss a))), (0, .ref (w.2.2 0)), (1, .int (nI sn)), (2, .int (nI pn)), (3, .int (nI nn)), (4, .int (nI rn_)), (5, .int (nI kk)), (6, .int (nI pp)), (7, .int (nI ((pp + 1) % ih_pl T))), (8, .int (nI ss)), (9, .int (nI oo)), (10, .int (nI (10 * (225 * kk + 25 * pp + ss) + oo))), (11, .long (lN (ih_sum (ih_lf (decide (rn_ = 9)) (ih_cc T) (ih_pl T) (kk - 1) pp ss oo) (a)))), (13, .int (nI a))]) C dX8_likely_222 (by decide) rfl ?_
                                                refine s_lload C 14 dX8_likely_224 rfl ?_
                                                refine s_aload_n C 3 dX8_likely_226 rfl ?_
                                                refine s_getR C 8 6 (hM.1 _ _ _ rfl) (by decide) rfl (by decide) rfl (fun _ h => List.mem_cons_of_mem _ (List.mem_append_right _ h)) (by decide) rfl (by decide +kernel) dX8_likely_227 ?_
                                                refine s_bipush (v := nI 7) C dX8_likely_230 (by decide) ?_
                                                refine s_aload_n C 3 dX8_likely_232 rfl ?_
                                                refine s_getR C 8 8 (hM.1 _ _ _ rfl) (by decide) rfl (by decide) rfl (fun _ h => List.mem_cons_of_mem _ (List.mem_append_right _ h)) (by decide) rfl (by decide +kernel) dX8_likely_233 ?_
                                                refine s_iload C 9 dX8_likely_236 rfl ?_
                                                refine s_iaload C 9 (pp) rfl rfl (by omega) (by decide) (by decide) rfl dX8_likely_238 ?_
                                                refine s_toe (b := T 5 pp) (hM.2 _ _ rfl) ?_
                                                refine s_toe (b := nI (ih_or T pp)) (hI.2.2.1.2.2 pp hpl).1 ?_
                                                refine s_imulN C dX8_likely_239 ?_
                                                refine s_iload C 15 dX8_likely_240 rfl ?_
                                                refine s_iaddN C dX8_likely_242 ?_
                                                refine s_iaload C 84 ((7 * (ih_or T pp)) + a) rfl rfl (by omega) (by decide) (by decide) rfl dX8_likely_243 ?_
                                                refine s_toe (b := T 4 ((7 * (ih_or T pp)) + a)) (hM.2 _ _ rfl) ?_
                                                refine s_toe (b := nI (ih_cc T pp a)) (ih_cc_e hI hpl (by omega)).1 ?_
                                                have hcb := (ih_cc_e hI (a := a) hpl (by omega)).2
                                                refine s_i2lN C dX8_likely_244 (by omega) ?_
                                                refine s_lload C 0 dX8_likely_245 rfl ?_
                                                refine s_lmulN C dX8_likely_247 ?_
                                                refine s_laddN C dX8_likely_248 ?_
                                                refine s_tol (b := lN (ih_sum (ih_lf (decide (rn_ = 9)) (ih_cc T) (ih_pl T) (kk - 1) pp ss oo) (a + 1))) rfl ?_
                                                refine s_lstore (lv' := [(11, .long (lN (ih_sum (ih_lf (decide (rn_ = 9)) (ih_cc T) (ih_pl T) (kk - 1) pp ss oo) (a + 1)))), (16, .long (lN (if oo < ih_rn ss a then (if (decide (rn_ = 9)) = true then 1000000 else 0) else ih_lk (decide (rn_ = 9)) (ih_cc T) (ih_pl T) (kk - 1) ((pp + 1) % ih_pl T) (ih_nx ss a) (oo - ih_rn ss a)))), (15, .int (nI (10 * (((225 * (kk - 1)) + (25 * ((pp + 1) % ih_pl T))) + (ih_nx ss a))))), (14, .int (nI (oo - ih_rn ss a))), (0, .ref (w.2.2 0)), (1, .int (nI sn)), (2, .int (nI pn)), (3, .int (nI nn)), (4, .int (nI rn_)), (5, .int (nI kk)), (6, .int (nI pp)), (7, .int (nI ((pp + 1) % ih_pl T))), (8, .int (nI ss)), (9, .int (nI oo)), (10, .int (nI (10 * (225 * kk + 25 * pp + ss) + oo))), (13, .int (nI a))]) C dX8_likely_249 (by decide) rfl ?_
                                                refine s_iinc (u := nI (a + 1)) (lv' := [(13, .int (nI (a + 1))), (11, .long (lN (ih_sum (ih_lf (decide (rn_ = 9)) (ih_cc T) (ih_pl T) (kk - 1) pp ss oo) (a + 1)))), (16, .long (lN (if oo < ih_rn ss a then (if (decide (rn_ = 9)) = true then 1000000 else 0) else ih_lk (decide (rn_ = 9)) (ih_cc T) (ih_pl T) (kk - 1) ((pp + 1) % ih_pl T) (ih_nx ss a) (oo - ih_rn ss a)))), (15, .int (nI (10 * (((225 * (kk - 1)) + (25 * ((pp + 1) % ih_pl T))) + (ih_nx ss a))))), (14, .int (nI (oo - ih_rn ss a))), (0, .ref (w.2.2 0)), (1, .int (nI sn)), (2, .int (nI pn)), (3, .int (nI nn)), (4, .int (nI rn_)), (5, .int (nI kk)), (6, .int (nI pp)), (7, .int (nI ((pp + 1) % ih_pl T))), (8, .int (nI ss)), (9, .int (nI oo)), (10, .int (nI (10 * (225 * kk + 25 * pp + ss) + oo)))]) C 15 dX8_likely_251 rfl (ih_incN (by decide)) (by decide) rfl ?_
                                                refine s_goto C 112 dX8_likely_254 (by decide) ?_
                                                refine s_perm [5, 6, 7, 8, 9, 10, 11, 12, 13, 14, 15, 1, 0] rfl ?_
                                                exact ih_112 (a + 1) (by omega) _ ⟨hM, ht⟩
                                          · have hneg : (nI oo - nI (ih_rn ss a)).toInt < 0 := by rw [pk_sub_toInt (by omega) (by omega)]; omega
                                            refine s_istore (lv' := [(14, .int (nI oo - nI (ih_rn ss a))), (0, .ref (w.2.2 0)), (1, .int (nI sn)), (2, .int (nI pn)), (3, .int (nI nn)), (4, .int (nI rn_)), (5, .int (nI kk)), (6, .int (nI pp)), (7, .int (nI ((pp + 1) % ih_pl T))), (8, .int (nI ss)), (9, .int (nI oo)), (10, .int (nI (10 * (225 * kk + 25 * pp + ss) + oo))), (11, .long (lN (ih_sum (ih_lf (decide (rn_ = 9)) (ih_cc T) (ih_pl T) (kk - 1) pp ss oo) (a)))), (13, .int (nI a))]) C dX8_likely_141 (by decide) rfl ?_
                                            refine s_bipush (v := nI 10) C dX8_likely_143 (by decide) ?_
                                            refine s_sipush (v := nI 225) C dX8_likely_145 (by decide) ?_
                                            refine s_iload C 6 dX8_likely_148 rfl ?_
                                            refine s_iconst (v := nI 1) C dX8_likely_150 (by decide) ?_
                                            refine s_isubN C dX8_likely_151 (by omega) ?_
                                            refine s_imulN C dX8_likely_152 ?_
                                            refine s_bipush (v := nI 25) C dX8_likely_153 (by decide) ?_
                                            refine s_iload C 8 dX8_likely_155 rfl ?_
                                            refine s_imulN C dX8_likely_157 ?_
                                            refine s_iaddN C dX8_likely_158 ?_
                                            refine s_iload C 9 dX8_likely_159 rfl ?_
                                            refine s_iload C 13 dX8_likely_161 rfl ?_
                                            refine s_callSi 2 C (c_X8_next _ w _ ss a hns.2 (by omega)) gX8_likely_X8_next rfl (by decide +kernel) (by decide) (by decide) rfl rfl (Nat.le_of_ble_eq_true rfl) dX8_likely_163 ?_
                                            rintro rr S2 ⟨hrr, rfl⟩
                                            subst hrr
                                            have hnx := ih_nx_le ss hns.2 a (by omega)
                                            refine s_iaddN C dX8_likely_166 ?_
                                            refine s_imulN C dX8_likely_167 ?_
                                            refine s_istore (lv' := [(15, .int (nI (10 * (((225 * (kk - 1)) + (25 * ((pp + 1) % ih_pl T))) + (ih_nx ss a))))), (14, .int (nI oo - nI (ih_rn ss a))), (0, .ref (w.2.2 0)), (1, .int (nI sn)), (2, .int (nI pn)), (3, .int (nI nn)), (4, .int (nI rn_)), (5, .int (nI kk)), (6, .int (nI pp)), (7, .int (nI ((pp + 1) % ih_pl T))), (8, .int (nI ss)), (9, .int (nI oo)), (10, .int (nI (10 * (225 * kk + 25 * pp + ss) + oo))), (11, .long (lN (ih_sum (ih_lf (decide (rn_ = 9)) (ih_cc T) (ih_pl T) (kk - 1) pp ss oo) (a)))), (13, .int (nI a))]) C dX8_likely_168 (by decide) rfl ?_
                                            refine s_iload C 6 dX8_likely_170 rfl ?_
                                            refine s_bipush (v := nI 9) C dX8_likely_172 (by decide) ?_
                                            refine s_icmp_neN 202 C dX8_likely_174 (by decide) (by omega) (by omega) (fun h174 => ?_) (fun h174 => ?_)
                                            · refine s_iload C 1 dX8_likely_202 rfl ?_
                                              refine s_if_ge C 211 dX8_likely_204 (by decide) (fun h204 => ?_) (fun h204 => ?_)
                                              · simp only [ih_lei, ih_lti, ih_t0] at h204; exfalso; omega
                                              · simp only [ih_lei, ih_lti, ih_t0] at h204
                                                refine s_lconst (v := lN 0) C dX8_likely_207 rfl ?_
                                                refine s_goto C 222 dX8_likely_208 (by decide) ?_
                                                refine s_tol (b := lN (if oo < ih_rn ss a then (if (decide (rn_ = 9)) = true then 1000000 else 0) else ih_lk (decide (rn_ = 9)) (ih_cc T) (ih_pl T) (kk - 1) ((pp + 1) % ih_pl T) (ih_nx ss a) (oo - ih_rn ss a))) (congrArg lN (by rw [if_pos (by omega), if_neg (by rw [decide_eq_true_eq]; omega)])) ?_
                                                refine s_lstore (lv' := [(16, .long (lN (if oo < ih_rn ss a then (if (decide (rn_ = 9)) = true then 1000000 else 0) else ih_lk (decide (rn_ = 9)) (ih_cc T) (ih_pl T) (kk - 1) ((pp + 1) % ih_pl T) (ih_nx ss a) (oo - ih_rn ss a)))), (15, .int (nI (10 * (((225 * (kk - 1)) + (25 * ((pp + 1) % ih_pl T))) + (ih_nx ss a))))), (14, .int (nI oo - nI (ih_rn ss a))), (0, .ref (w.2.2 0)), (1, .int (nI sn)), (2, .int (nI pn)), (3, .int (nI nn)), (4, .int (nI rn_)), (5, .int (nI kk)), (6, .int (nI pp)), (7, .int (nI ((pp + 1) % ih_pl T))), (8, .int (nI ss)), (9, .int (nI oo)), (10, .int (nI (10 * (225 * kk + 25 * pp + ss) + oo))), (11, .long (lN (ih_sum (ih_lf (decide (rn_ = 9)) (ih_cc T) (ih_pl T) (kk - 1) pp ss oo) (a)))), (13, .int (nI a))]) C dX8_likely_222 (by decide) rfl ?_
                                                refine s_lload C 14 dX8_likely_224 rfl ?_
                                                refine s_aload_n C 3 dX8_likely_226 rfl ?_
                                                refine s_getR C 8 6 (hM.1 _ _ _ rfl) (by decide) rfl (by decide) rfl (fun _ h => List.mem_cons_of_mem _ (List.mem_append_right _ h)) (by decide) rfl (by decide +kernel) dX8_likely_227 ?_
                                                refine s_bipush (v := nI 7) C dX8_likely_230 (by decide) ?_
                                                refine s_aload_n C 3 dX8_likely_232 rfl ?_
                                                refine s_getR C 8 8 (hM.1 _ _ _ rfl) (by decide) rfl (by decide) rfl (fun _ h => List.mem_cons_of_mem _ (List.mem_append_right _ h)) (by decide) rfl (by decide +kernel) dX8_likely_233 ?_
                                                refine s_iload C 9 dX8_likely_236 rfl ?_
                                                refine s_iaload C 9 (pp) rfl rfl (by omega) (by decide) (by decide) rfl dX8_likely_238 ?_
                                                refine s_toe (b := T 5 pp) (hM.2 _ _ rfl) ?_
                                                refine s_toe (b := nI (ih_or T pp)) (hI.2.2.1.2.2 pp hpl).1 ?_
                                                refine s_imulN C dX8_likely_239 ?_
                                                refine s_iload C 15 dX8_likely_240 rfl ?_
                                                refine s_iaddN C dX8_likely_242 ?_
                                                refine s_iaload C 84 ((7 * (ih_or T pp)) + a) rfl rfl (by omega) (by decide) (by decide) rfl dX8_likely_243 ?_
                                                refine s_toe (b := T 4 ((7 * (ih_or T pp)) + a)) (hM.2 _ _ rfl) ?_
                                                refine s_toe (b := nI (ih_cc T pp a)) (ih_cc_e hI hpl (by omega)).1 ?_
                                                have hcb := (ih_cc_e hI (a := a) hpl (by omega)).2
                                                refine s_i2lN C dX8_likely_244 (by omega) ?_
                                                refine s_lload C 0 dX8_likely_245 rfl ?_
                                                refine s_lmulN C dX8_likely_247 ?_
                                                refine s_laddN C dX8_likely_248 ?_
                                                refine s_tol (b := lN (ih_sum (ih_lf (decide (rn_ = 9)) (ih_cc T) (ih_pl T) (kk - 1) pp ss oo) (a + 1))) rfl ?_
                                                refine s_lstore (lv' := [(11, .long (lN (ih_sum (ih_lf (decide (rn_ = 9)) (ih_cc T) (ih_pl T) (kk - 1) pp ss oo) (a + 1)))), (16, .long (lN (if oo < ih_rn ss a then (if (decide (rn_ = 9)) = true then 1000000 else 0) else ih_lk (decide (rn_ = 9)) (ih_cc T) (ih_pl T) (kk - 1) ((pp + 1) % ih_pl T) (ih_nx ss a) (oo - ih_rn ss a)))), (15, .int (nI (10 * (((225 * (kk - 1)) + (25 * ((pp + 1) % ih_pl T))) + (ih_nx ss a))))), (14, .int (nI oo - nI (ih_rn ss a))), (0, .ref (w.2.2 0)), (1, .int (nI sn)), (2, .int (nI pn)), (3, .int (nI nn)), (4, .int (nI rn_)), (5, .int (nI kk)), (6, .int (nI pp)), (7, .int (nI ((pp + 1) % ih_pl T))), (8, .int (nI ss)), (9, .int (nI oo)), (10, .int (nI (10 * (225 * kk + 25 * pp + ss) + oo))), (13, .int (nI a))]) C dX8_likely_249 (by decide) rfl ?_
                                                refine s_iinc (u := nI (a + 1)) (lv' := [(13, .int (nI (a + 1))), (11, .long (lN (ih_sum (ih_lf (decide (rn_ = 9)) (ih_cc T) (ih_pl T) (kk - 1) pp ss oo) (a + 1)))), (16, .long (lN (if oo < ih_rn ss a then (if (decide (rn_ = 9)) = true then 1000000 else 0) else ih_lk (decide (rn_ = 9)) (ih_cc T) (ih_pl T) (kk - 1) ((pp + 1) % ih_pl T) (ih_nx ss a) (oo - ih_rn ss a)))), (15, .int (nI (10 * (((225 * (kk - 1)) + (25 * ((pp + 1) % ih_pl T))) + (ih_nx ss a))))), (14, .int (nI oo - nI (ih_rn ss a))), (0, .ref (w.2.2 0)), (1, .int (nI sn)), (2, .int (nI pn)), (3, .int (nI nn)), (4, .int (nI rn_)), (5, .int (nI kk)), (6, .int (nI pp)), (7, .int (nI ((pp + 1) % ih_pl T))), (8, .int (nI ss)), (9, .int (nI oo)), (10, .int (nI (10 * (225 * kk + 25 * pp + ss) + oo)))]) C 15 dX8_likely_251 rfl (ih_incN (by decide)) (by decide) rfl ?_
                                                refine s_goto C 112 dX8_likely_254 (by decide) ?_
                                                refine s_perm [5, 6, 7, 8, 9, 10, 11, 12, 13, 14, 15, 1, 0] rfl ?_
                                                exact ih_112 (a + 1) (by omega) _ ⟨hM, ht⟩
                                            · refine s_iload C 1 dX8_likely_177 rfl ?_
                                              refine s_if_gt C 188 dX8_likely_179 (by decide) (fun h179 => ?_) (fun h179 => ?_)
                                              · simp only [ih_lei, ih_lti, ih_t0] at h179; exfalso; omega
                                              · simp only [ih_lei, ih_lti, ih_t0] at h179
                                                refine s_ldc2 (v := lN 1000000) C (by decide +kernel) dX8_likely_182 ?_
                                                refine s_goto C 222 dX8_likely_185 (by decide) ?_
                                                refine s_tol (b := lN (if oo < ih_rn ss a then (if (decide (rn_ = 9)) = true then 1000000 else 0) else ih_lk (decide (rn_ = 9)) (ih_cc T) (ih_pl T) (kk - 1) ((pp + 1) % ih_pl T) (ih_nx ss a) (oo - ih_rn ss a))) (congrArg lN (by rw [if_pos (by omega), if_pos (by rw [decide_eq_true_eq]; omega)])) ?_
                                                refine s_lstore (lv' := [(16, .long (lN (if oo < ih_rn ss a then (if (decide (rn_ = 9)) = true then 1000000 else 0) else ih_lk (decide (rn_ = 9)) (ih_cc T) (ih_pl T) (kk - 1) ((pp + 1) % ih_pl T) (ih_nx ss a) (oo - ih_rn ss a)))), (15, .int (nI (10 * (((225 * (kk - 1)) + (25 * ((pp + 1) % ih_pl T))) + (ih_nx ss a))))), (14, .int (nI oo - nI (ih_rn ss a))), (0, .ref (w.2.2 0)), (1, .int (nI sn)), (2, .int (nI pn)), (3, .int (nI nn)), (4, .int (nI rn_)), (5, .int (nI kk)), (6, .int (nI pp)), (7, .int (nI ((pp + 1) % ih_pl T))), (8, .int (nI ss)), (9, .int (nI oo)), (10, .int (nI (10 * (225 * kk + 25 * pp + ss) + oo))), (11, .long (lN (ih_sum (ih_lf (decide (rn_ = 9)) (ih_cc T) (ih_pl T) (kk - 1) pp ss oo) (a)))), (13, .int (nI a))]) C dX8_likely_222 (by decide) rfl ?_
                                                refine s_lload C 14 dX8_likely_224 rfl ?_
                                                refine s_aload_n C 3 dX8_likely_226 rfl ?_
                                                refine s_getR C 8 6 (hM.1 _ _ _ rfl) (by decide) rfl (by decide) rfl (fun _ h => List.mem_cons_of_mem _ (List.mem_append_right _ h)) (by decide) rfl (by decide +kernel) dX8_likely_227 ?_
                                                refine s_bipush (v := nI 7) C dX8_likely_230 (by decide) ?_
                                                refine s_aload_n C 3 dX8_likely_232 rfl ?_
                                                refine s_getR C 8 8 (hM.1 _ _ _ rfl) (by decide) rfl (by decide) rfl (fun _ h => List.mem_cons_of_mem _ (List.mem_append_right _ h)) (by decide) rfl (by decide +kernel) dX8_likely_233 ?_
                                                refine s_iload C 9 dX8_likely_236 rfl ?_
                                                refine s_iaload C 9 (pp) rfl rfl (by omega) (by decide) (by decide) rfl dX8_likely_238 ?_
                                                refine s_toe (b := T 5 pp) (hM.2 _ _ rfl) ?_
                                                refine s_toe (b := nI (ih_or T pp)) (hI.2.2.1.2.2 pp hpl).1 ?_
                                                refine s_imulN C dX8_likely_239 ?_
                                                refine s_iload C 15 dX8_likely_240 rfl ?_
                                                refine s_iaddN C dX8_likely_242 ?_
                                                refine s_iaload C 84 ((7 * (ih_or T pp)) + a) rfl rfl (by omega) (by decide) (by decide) rfl dX8_likely_243 ?_
                                                refine s_toe (b := T 4 ((7 * (ih_or T pp)) + a)) (hM.2 _ _ rfl) ?_
                                                refine s_toe (b := nI (ih_cc T pp a)) (ih_cc_e hI hpl (by omega)).1 ?_
                                                have hcb := (ih_cc_e hI (a := a) hpl (by omega)).2
                                                refine s_i2lN C dX8_likely_244 (by omega) ?_
                                                refine s_lload C 0 dX8_likely_245 rfl ?_
                                                refine s_lmulN C dX8_likely_247 ?_
                                                refine s_laddN C dX8_likely_248 ?_
                                                refine s_tol (b := lN (ih_sum (ih_lf (decide (rn_ = 9)) (ih_cc T) (ih_pl T) (kk - 1) pp ss oo) (a + 1))) rfl ?_
                                                refine s_lstore (lv' := [(11, .long (lN (ih_sum (ih_lf (decide (rn_ = 9)) (ih_cc T) (ih_pl T) (kk - 1) pp ss oo) (a + 1)))), (16, .long (lN (if oo < ih_rn ss a then (if (decide (rn_ = 9)) = true then 1000000 else 0) else ih_lk (decide (rn_ = 9)) (ih_cc T) (ih_pl T) (kk - 1) ((pp + 1) % ih_pl T) (ih_nx ss a) (oo - ih_rn ss a)))), (15, .int (nI (10 * (((225 * (kk - 1)) + (25 * ((pp + 1) % ih_pl T))) + (ih_nx ss a))))), (14, .int (nI oo - nI (ih_rn ss a))), (0, .ref (w.2.2 0)), (1, .int (nI sn)), (2, .int (nI pn)), (3, .int (nI nn)), (4, .int (nI rn_)), (5, .int (nI kk)), (6, .int (nI pp)), (7, .int (nI ((pp + 1) % ih_pl T))), (8, .int (nI ss)), (9, .int (nI oo)), (10, .int (nI (10 * (225 * kk + 25 * pp + ss) + oo))), (13, .int (nI a))]) C dX8_likely_249 (by decide) rfl ?_
                                                refine s_iinc (u := nI (a + 1)) (lv' := [(13, .int (nI (a + 1))), (11, .long (lN (ih_sum (ih_lf (decide (rn_ = 9)) (ih_cc T) (ih_pl T) (kk - 1) pp ss oo) (a + 1)))), (16, .long (lN (if oo < ih_rn ss a then (if (decide (rn_ = 9)) = true then 1000000 else 0) else ih_lk (decide (rn_ = 9)) (ih_cc T) (ih_pl T) (kk - 1) ((pp + 1) % ih_pl T) (ih_nx ss a) (oo - ih_rn ss a)))), (15, .int (nI (10 * (((225 * (kk - 1)) + (25 * ((pp + 1) % ih_pl T))) + (ih_nx ss a))))), (14, .int (nI oo - nI (ih_rn ss a))), (0, .ref (w.2.2 0)), (1, .int (nI sn)), (2, .int (nI pn)), (3, .int (nI nn)), (4, .int (nI rn_)), (5, .int (nI kk)), (6, .int (nI pp)), (7, .int (nI ((pp + 1) % ih_pl T))), (8, .int (nI ss)), (9, .int (nI oo)), (10, .int (nI (10 * (225 * kk + 25 * pp + ss) + oo)))]) C 15 dX8_likely_251 rfl (ih_incN (by decide)) (by decide) rfl ?_
                                                refine s_goto C 112 dX8_likely_254 (by decide) ?_
                                                refine s_perm [5, 6, 7, 8, 9, 10, 11, 12, 13, 14, 15, 1, 0] rfl ?_
                                                exact ih_112 (a + 1) (by omega) _ ⟨hM, ht⟩
                                refine s_perm [3, 4, 5, 6, 7, 8, 9, 10, 11, 12, 2, 1, 0] rfl ?_
                                exact loop_112 6 0 (by omega) _ ⟨hM, ht⟩
                              · refine s_iload C 0 dX8_likely_112 rfl ?_
                                refine s_bipush (v := nI 6) C dX8_likely_114 (by decide) ?_
                                refine s_icmp_geN 257 C dX8_likely_116 (by decide) (by omega) (by omega) (fun h116 => ?_) (fun h116 => ?_)
                                · exact absurd h116 (by decide)
                                · refine s_iload C 8 dX8_likely_119 rfl ?_
                                  refine s_if_leN 257 C dX8_likely_121 (by decide) (by omega) (fun h121 => ?_) (fun h121 => ?_)
                                  · refine s_aload_n C 3 dX8_likely_257 rfl ?_
                                    refine s_getR C 8 10 (hM.1 _ _ _ rfl) (by decide) rfl (by decide) rfl (fun _ h => List.mem_cons_of_mem _ (List.mem_append_right _ h)) (by decide) rfl (by decide +kernel) dX8_likely_258 ?_
                                    refine s_iload C 2 dX8_likely_261 rfl ?_
                                    refine s_iload C 8 dX8_likely_263 rfl ?_
                                    refine s_if_eqN 275 C dX8_likely_265 (by decide) (by omega) (fun h265 => ?_) (fun h265 => ?_)
                                    · refine s_iload C 12 dX8_likely_275 rfl ?_
                                      refine s_if_neN 285 C dX8_likely_277 (by decide) (by omega) (fun h277 => ?_) (fun h277 => ?_)
                                      · refine s_iconst (v := nI 0) C dX8_likely_285 (by decide) ?_
                                        refine s_goto C 296 dX8_likely_286 (by decide) ?_
                                        refine s_iastore C 69750 ((10 * (((225 * kk) + (25 * pp)) + ss)) + oo) rfl rfl (by omega) (by decide) (by decide) rfl dX8_likely_296 ?_
                                        refine s_iinc (u := nI (oo + 1)) (lv' := [(9, .int (nI (oo + 1))), (13, .int (nI 0)), (11, .long (lN (0))), (10, .int (nI ((10 * (((225 * kk) + (25 * pp)) + ss)) + oo))), (0, .ref (w.2.2 0)), (1, .int (nI sn)), (2, .int (nI pn)), (3, .int (nI nn)), (4, .int (nI rn_)), (5, .int (nI kk)), (6, .int (nI pp)), (7, .int (nI ((pp + 1) % ih_pl T))), (8, .int (nI ss))]) C 12 dX8_likely_297 rfl (ih_incN (by decide)) (by decide) rfl ?_
                                        refine s_goto C 76 dX8_likely_300 (by decide) ?_
                                        refine s_perm [4, 5, 6, 7, 8, 9, 10, 11, 12, 0] rfl ?_
                                        exact ih_76 (oo + 1) (by omega) _ ⟨ih_RM_h hM rfl, ih_LT_w ht (by first | (exfalso; omega) | (rw [ih_lk_p hns.1 hns.2]) | (rw [ih_lk_n hns, if_pos (by omega)]) | (rw [ih_lk_n hns, if_neg (by omega)])) hpl9 hpl (by omega) (by omega)⟩
                                      · refine s_ldc (v := nI 1000000) C (by decide +kernel) dX8_likely_280 ?_
                                        refine s_goto C 296 dX8_likely_282 (by decide) ?_
                                        refine s_iastore C 69750 ((10 * (((225 * kk) + (25 * pp)) + ss)) + oo) rfl rfl (by omega) (by decide) (by decide) rfl dX8_likely_296 ?_
                                        refine s_iinc (u := nI (oo + 1)) (lv' := [(9, .int (nI (oo + 1))), (13, .int (nI 0)), (11, .long (lN (0))), (10, .int (nI ((10 * (((225 * kk) + (25 * pp)) + ss)) + oo))), (0, .ref (w.2.2 0)), (1, .int (nI sn)), (2, .int (nI pn)), (3, .int (nI nn)), (4, .int (nI rn_)), (5, .int (nI kk)), (6, .int (nI pp)), (7, .int (nI ((pp + 1) % ih_pl T))), (8, .int (nI ss))]) C 12 dX8_likely_297 rfl (ih_incN (by decide)) (by decide) rfl ?_
                                        refine s_goto C 76 dX8_likely_300 (by decide) ?_
                                        refine s_perm [4, 5, 6, 7, 8, 9, 10, 11, 12, 0] rfl ?_
                                        exact ih_76 (oo + 1) (by omega) _ ⟨ih_RM_h hM rfl, ih_LT_w ht (by first | (exfalso; omega) | (rw [ih_lk_p hns.1 hns.2]) | (rw [ih_lk_n hns, if_pos (by omega)]) | (rw [ih_lk_n hns, if_neg (by omega)])) hpl9 hpl (by omega) (by omega)⟩
                                    · refine s_iload C 11 dX8_likely_268 rfl ?_
                                      refine s_bipush (v := nI 24) C dX8_likely_270 (by decide) ?_
                                      refine s_icmp_neN 289 C dX8_likely_272 (by decide) (by omega) (by omega) (fun h272 => ?_) (fun h272 => ?_)
                                      · exfalso; omega
                                      · refine s_iload C 12 dX8_likely_275 rfl ?_
                                        refine s_if_neN 285 C dX8_likely_277 (by decide) (by omega) (fun h277 => ?_) (fun h277 => ?_)
                                        · refine s_iconst (v := nI 0) C dX8_likely_285 (by decide) ?_
                                          refine s_goto C 296 dX8_likely_286 (by decide) ?_
                                          refine s_iastore C 69750 ((10 * (((225 * kk) + (25 * pp)) + ss)) + oo) rfl rfl (by omega) (by decide) (by decide) rfl dX8_likely_296 ?_
                                          refine s_iinc (u := nI (oo + 1)) (lv' := [(9, .int (nI (oo + 1))), (13, .int (nI 0)), (11, .long (lN (0))), (10, .int (nI ((10 * (((225 * kk) + (25 * pp)) + ss)) + oo))), (0, .ref (w.2.2 0)), (1, .int (nI sn)), (2, .int (nI pn)), (3, .int (nI nn)), (4, .int (nI rn_)), (5, .int (nI kk)), (6, .int (nI pp)), (7, .int (nI ((pp + 1) % ih_pl T))), (8, .int (nI ss))]) C 12 dX8_likely_297 rfl (ih_incN (by decide)) (by decide) rfl ?_
                                          refine s_goto C 76 dX8_likely_300 (by decide) ?_
                                          refine s_perm [4, 5, 6, 7, 8, 9, 10, 11, 12, 0] rfl ?_
                                          exact ih_76 (oo + 1) (by omega) _ ⟨ih_RM_h hM rfl, ih_LT_w ht (by first | (exfalso; omega) | (rw [ih_lk_p hns.1 hns.2]) | (rw [ih_lk_n hns, if_pos (by omega)]) | (rw [ih_lk_n hns, if_neg (by omega)])) hpl9 hpl (by omega) (by omega)⟩
                                        · refine s_ldc (v := nI 1000000) C (by decide +kernel) dX8_likely_280 ?_
                                          refine s_goto C 296 dX8_likely_282 (by decide) ?_
                                          refine s_iastore C 69750 ((10 * (((225 * kk) + (25 * pp)) + ss)) + oo) rfl rfl (by omega) (by decide) (by decide) rfl dX8_likely_296 ?_
                                          refine s_iinc (u := nI (oo + 1)) (lv' := [(9, .int (nI (oo + 1))), (13, .int (nI 0)), (11, .long (lN (0))), (10, .int (nI ((10 * (((225 * kk) + (25 * pp)) + ss)) + oo))), (0, .ref (w.2.2 0)), (1, .int (nI sn)), (2, .int (nI pn)), (3, .int (nI nn)), (4, .int (nI rn_)), (5, .int (nI kk)), (6, .int (nI pp)), (7, .int (nI ((pp + 1) % ih_pl T))), (8, .int (nI ss))]) C 12 dX8_likely_297 rfl (ih_incN (by decide)) (by decide) rfl ?_
                                          refine s_goto C 76 dX8_likely_300 (by decide) ?_
                                          refine s_perm [4, 5, 6, 7, 8, 9, 10, 11, 12, 0] rfl ?_
                                          exact ih_76 (oo + 1) (by omega) _ ⟨ih_RM_h hM rfl, ih_LT_w ht (by first | (exfalso; omega) | (rw [ih_lk_p hns.1 hns.2]) | (rw [ih_lk_n hns, if_pos (by omega)]) | (rw [ih_lk_n hns, if_neg (by omega)])) hpl9 hpl (by omega) (by omega)⟩
                                  · refine s_iload C 11 dX8_likely_124 rfl ?_
                                    refine s_bipush (v := nI 24) C dX8_likely_126 (by decide) ?_
                                    refine s_icmp_geN 257 C dX8_likely_128 (by decide) (by omega) (by omega) (fun h128 => ?_) (fun h128 => ?_)
                                    · refine s_aload_n C 3 dX8_likely_257 rfl ?_
                                      refine s_getR C 8 10 (hM.1 _ _ _ rfl) (by decide) rfl (by decide) rfl (fun _ h => List.mem_cons_of_mem _ (List.mem_append_right _ h)) (by decide) rfl (by decide +kernel) dX8_likely_258 ?_
                                      refine s_iload C 2 dX8_likely_261 rfl ?_
                                      refine s_iload C 8 dX8_likely_263 rfl ?_
                                      refine s_if_eqN 275 C dX8_likely_265 (by decide) (by omega) (fun h265 => ?_) (fun h265 => ?_)
                                      · refine s_iload C 12 dX8_likely_275 rfl ?_
                                        refine s_if_neN 285 C dX8_likely_277 (by decide) (by omega) (fun h277 => ?_) (fun h277 => ?_)
                                        · refine s_iconst (v := nI 0) C dX8_likely_285 (by decide) ?_
                                          refine s_goto C 296 dX8_likely_286 (by decide) ?_
                                          refine s_iastore C 69750 ((10 * (((225 * kk) + (25 * pp)) + ss)) + oo) rfl rfl (by omega) (by decide) (by decide) rfl dX8_likely_296 ?_
                                          refine s_iinc (u := nI (oo + 1)) (lv' := [(9, .int (nI (oo + 1))), (13, .int (nI 0)), (11, .long (lN (0))), (10, .int (nI ((10 * (((225 * kk) + (25 * pp)) + ss)) + oo))), (0, .ref (w.2.2 0)), (1, .int (nI sn)), (2, .int (nI pn)), (3, .int (nI nn)), (4, .int (nI rn_)), (5, .int (nI kk)), (6, .int (nI pp)), (7, .int (nI ((pp + 1) % ih_pl T))), (8, .int (nI ss))]) C 12 dX8_likely_297 rfl (ih_incN (by decide)) (by decide) rfl ?_
                                          refine s_goto C 76 dX8_likely_300 (by decide) ?_
                                          refine s_perm [4, 5, 6, 7, 8, 9, 10, 11, 12, 0] rfl ?_
                                          exact ih_76 (oo + 1) (by omega) _ ⟨ih_RM_h hM rfl, ih_LT_w ht (by first | (exfalso; omega) | (rw [ih_lk_p hns.1 hns.2]) | (rw [ih_lk_n hns, if_pos (by omega)]) | (rw [ih_lk_n hns, if_neg (by omega)])) hpl9 hpl (by omega) (by omega)⟩
                                        · refine s_ldc (v := nI 1000000) C (by decide +kernel) dX8_likely_280 ?_
                                          refine s_goto C 296 dX8_likely_282 (by decide) ?_
                                          refine s_iastore C 69750 ((10 * (((225 * kk) + (25 * pp)) + ss)) + oo) rfl rfl (by omega) (by decide) (by decide) rfl dX8_likely_296 ?_
                                          refine s_iinc (u := nI (oo + 1)) (lv' := [(9, .int (nI (oo + 1))), (13, .int (nI 0)), (11, .long (lN (0))), (10, .int (nI ((10 * (((225 * kk) + (25 * pp)) + ss)) + oo))), (0, .ref (w.2.2 0)), (1, .int (nI sn)), (2, .int (nI pn)), (3, .int (nI nn)), (4, .int (nI rn_)), (5, .int (nI kk)), (6, .int (nI pp)), (7, .int (nI ((pp + 1) % ih_pl T))), (8, .int (nI ss))]) C 12 dX8_likely_297 rfl (ih_incN (by decide)) (by decide) rfl ?_
                                          refine s_goto C 76 dX8_likely_300 (by decide) ?_
                                          refine s_perm [4, 5, 6, 7, 8, 9, 10, 11, 12, 0] rfl ?_
                                          exact ih_76 (oo + 1) (by omega) _ ⟨ih_RM_h hM rfl, ih_LT_w ht (by first | (exfalso; omega) | (rw [ih_lk_p hns.1 hns.2]) | (rw [ih_lk_n hns, if_pos (by omega)]) | (rw [ih_lk_n hns, if_neg (by omega)])) hpl9 hpl (by omega) (by omega)⟩
                                      · refine s_iload C 11 dX8_likely_268 rfl ?_
                                        refine s_bipush (v := nI 24) C dX8_likely_270 (by decide) ?_
                                        refine s_icmp_neN 289 C dX8_likely_272 (by decide) (by omega) (by omega) (fun h272 => ?_) (fun h272 => ?_)
                                        · exfalso; omega
                                        · refine s_iload C 12 dX8_likely_275 rfl ?_
                                          refine s_if_neN 285 C dX8_likely_277 (by decide) (by omega) (fun h277 => ?_) (fun h277 => ?_)
                                          · refine s_iconst (v := nI 0) C dX8_likely_285 (by decide) ?_
                                            refine s_goto C 296 dX8_likely_286 (by decide) ?_
                                            refine s_iastore C 69750 ((10 * (((225 * kk) + (25 * pp)) + ss)) + oo) rfl rfl (by omega) (by decide) (by decide) rfl dX8_likely_296 ?_
                                            refine s_iinc (u := nI (oo + 1)) (lv' := [(9, .int (nI (oo + 1))), (13, .int (nI 0)), (11, .long (lN (0))), (10, .int (nI ((10 * (((225 * kk) + (25 * pp)) + ss)) + oo))), (0, .ref (w.2.2 0)), (1, .int (nI sn)), (2, .int (nI pn)), (3, .int (nI nn)), (4, .int (nI rn_)), (5, .int (nI kk)), (6, .int (nI pp)), (7, .int (nI ((pp + 1) % ih_pl T))), (8, .int (nI ss))]) C 12 dX8_likely_297 rfl (ih_incN (by decide)) (by decide) rfl ?_
                                            refine s_goto C 76 dX8_likely_300 (by decide) ?_
                                            refine s_perm [4, 5, 6, 7, 8, 9, 10, 11, 12, 0] rfl ?_
                                            exact ih_76 (oo + 1) (by omega) _ ⟨ih_RM_h hM rfl, ih_LT_w ht (by first | (exfalso; omega) | (rw [ih_lk_p hns.1 hns.2]) | (rw [ih_lk_n hns, if_pos (by omega)]) | (rw [ih_lk_n hns, if_neg (by omega)])) hpl9 hpl (by omega) (by omega)⟩
                                          · refine s_ldc (v := nI 1000000) C (by decide +kernel) dX8_likely_280 ?_
                                            refine s_goto C 296 dX8_likely_282 (by decide) ?_
                                            refine s_iastore C 69750 ((10 * (((225 * kk) + (25 * pp)) + ss)) + oo) rfl rfl (by omega) (by decide) (by decide) rfl dX8_likely_296 ?_
                                            refine s_iinc (u := nI (oo + 1)) (lv' := [(9, .int (nI (oo + 1))), (13, .int (nI 0)), (11, .long (lN (0))), (10, .int (nI ((10 * (((225 * kk) + (25 * pp)) + ss)) + oo))), (0, .ref (w.2.2 0)), (1, .int (nI sn)), (2, .int (nI pn)), (3, .int (nI nn)), (4, .int (nI rn_)), (5, .int (nI kk)), (6, .int (nI pp)), (7, .int (nI ((pp + 1) % ih_pl T))), (8, .int (nI ss))]) C 12 dX8_likely_297 rfl (ih_incN (by decide)) (by decide) rfl ?_
                                            refine s_goto C 76 dX8_likely_300 (by decide) ?_
                                            refine s_perm [4, 5, 6, 7, 8, 9, 10, 11, 12, 0] rfl ?_
                                            exact ih_76 (oo + 1) (by omega) _ ⟨ih_RM_h hM rfl, ih_LT_w ht (by first | (exfalso; omega) | (rw [ih_lk_p hns.1 hns.2]) | (rw [ih_lk_n hns, if_pos (by omega)]) | (rw [ih_lk_n hns, if_neg (by omega)])) hpl9 hpl (by omega) (by omega)⟩
                                    · exfalso; omega
                        refine s_perm [1, 2, 3, 4, 5, 6, 7, 8, 9, 0] rfl ?_
                        exact loop_76 10 0 (by omega) _ ⟨hM, ht⟩
                  refine s_perm [2, 3, 4, 5, 6, 7, 8, 1, 0] rfl ?_
                  exact loop_66 25 0 (by omega) _ ⟨hM, ht⟩
            refine s_perm [1, 2, 3, 4, 5, 6, 0] rfl ?_
            exact loop_43 (ih_pl T) 0 (by omega) _ ⟨hM, ht⟩
      refine s_perm [1, 2, 3, 4, 5, 0] rfl ?_
      exact loop_34 (nn + 1) 0 (by omega) _ ⟨hM, fun n p s r _ _ _ hc => by omega⟩
    · replace h25 := ih_b0 hrb22 h25
      refine s_ldc (v := (-1000001)) C (by decide +kernel) dX8_likely_28 ?_
      rw [hQ]
      exact s_ireturn C hA dX8_likely_30 (by rw [sp_likely, if_neg (by omega)]; exact ⟨rfl, hM⟩)

