set_option maxHeartbeats 4000000 in
set_option maxRecDepth 100000 in
theorem c_X2_nextRow (l : Launch) (w : ih_Wd) (S : ih_Sg) (T : ih_TT) (hX : ih_RX S T) (hI : ih_Inv T) (hpl0 : 0 < ih_pl T) : ih_Ci l yX2_nextRow wsX2_nextRow 1 w ih_shX [.ref (w.2.2 46)] S (fun r S' => (ih_q T = 0 ∧ r = nI 0 ∧ ih_RX S' T) ∨ (0 < ih_q T ∧ r = nI 1 ∧ ih_RX S' (ih_nxt T))) := by
  refine ih_bodyi (ret := some .boolean) rfl rfl (Nat.le_of_ble_eq_true rfl) ?_
  intro x A hA C
  have C : ih_Ok x w A cX2_nextRow 5 RX2 wsX2_nextRow (ih_rm 1) (some .boolean) := C
  show ih_Mw x w ih_shX A (ih_Qi x w ih_shX A _) 5 0 0 0 [(0, .ref (w.2.2 46))] [] S
  obtain ⟨Q, hQ⟩ : ∃ Q, Q = ih_Qi x w ih_shX A (fun r S' => (ih_q T = 0 ∧ r = nI 0 ∧ ih_RX S' T) ∨ (0 < ih_q T ∧ r = nI 1 ∧ ih_RX S' (ih_nxt T))) := ⟨_, rfl⟩
  rw [show ih_Qi x w ih_shX A _ = Q from hQ.symm]
  have hp := hX.1
  have hpl9 : ih_pl T ≤ 9 := hI.2.2.1.2.1
  have hct : ih_ct T ≤ 12 := hI.2.1.2.1
  have hor : ∀ p, p < ih_pl T → ih_or T p < 12 := fun p hp => by have := (hI.2.2.1.2.2 p hp).2; omega
  refine s_aload_n C 0 dX2_nextRow_0 rfl ?_
  refine s_getI C 2 3 (by decide) rfl (by decide) rfl (fun _ h => List.mem_cons_of_mem _ (List.mem_append_right _ h)) (by decide) rfl (by decide +kernel) dX2_nextRow_1 ?_
  refine s_toe (ih_RX_pl hX hI) ?_
  refine s_iconst (v := nI 2) C dX2_nextRow_4 (by decide) ?_
  refine s_isub C dX2_nextRow_5  ?_
  refine s_toe (ih_m2 hpl0) ?_
  refine s_istore_n (lv' := [(1, .int (nI (ih_pl T - 1 - (0)) - nI 1)), (0, .ref (w.2.2 46))]) C dX2_nextRow_6 rfl (by decide) rfl ?_
  have loop_7 : ∀ (fu d : Nat), d + fu = ih_pl T - 1 → ∀ S, (ih_RX S T ∧ of_nk (ih_or T) (ih_pl T - 1) = of_nk (ih_or T) (ih_pl T - 1 - (d))) → ih_Mw x w ih_shX A Q 5 0 0 7 [(0, .ref (w.2.2 46)), (1, .int (nI (ih_pl T - 1 - (d)) - nI 1))] [] S := by
    intro fu
    induction fu with
    | zero =>
      intro d hde S ⟨hX, hnk⟩
      have hd0 : d = ih_pl T - 1 := by omega
      have hp := hX.1
      rw [show nI (ih_pl T - 1 - d) - nI 1 = -1 by rw [hd0, Nat.sub_self]; rfl]
      refine s_iload_n C 1 dX2_nextRow_7 rfl ?_
      refine s_if_lt C 34 dX2_nextRow_8 (by decide) (fun h8 => ?_) (fun h8 => ?_)
      · simp only [ih_lei, ih_lti, ih_t0] at h8
        refine s_iload_n C 1 dX2_nextRow_34 rfl ?_
        refine s_if_ge C 40 dX2_nextRow_35 (by decide) (fun h35 => ?_) (fun h35 => ?_)
        · exact absurd h35 (by decide)
        · simp only [ih_lei, ih_lti, ih_t0] at h35
          refine s_iconst (v := nI 0) C dX2_nextRow_38 (by decide) ?_
          rw [hQ]
          exact s_zreturn C hA dX2_nextRow_39 (by decide) (Or.inl ⟨by unfold ih_q; rw [hnk, hd0, Nat.sub_self]; rfl, rfl, hX⟩)
      · exact absurd (by decide) h8
    | succ fu ih_7 =>
      intro d hde S ⟨hX, hnk⟩
      have hdl : d < ih_pl T - 1 := by omega
      have hp := hX.1
      rw [ih_p2 (p := ih_pl T) (d := d) (by omega)]
      refine s_iload_n C 1 dX2_nextRow_7 rfl ?_
      refine s_if_ltN 34 C dX2_nextRow_8 (by decide) (by omega) (fun h8 => ?_) (fun h8 => ?_)
      · exfalso; omega
      · refine s_aload_n C 0 dX2_nextRow_11 rfl ?_
        refine s_getR C 2 2 (hp _ _ _ rfl) (by decide) rfl (by decide) rfl (fun _ h => List.mem_cons_of_mem _ (List.mem_append_right _ h)) (by decide) rfl (by decide +kernel) dX2_nextRow_12 ?_
        refine s_iload_n C 1 dX2_nextRow_15 rfl ?_
        refine s_iaload C 9 (ih_pl T - 2 - d) rfl rfl (by omega) (by decide) (by decide) rfl dX2_nextRow_16 ?_
        refine s_toe (b := nI (ih_or T (ih_pl T - 2 - d))) ((hX.2.2.2.2.2.2.1.2 (ih_pl T - 2 - d) (by omega)).trans (hI.2.2.1.2.2 (ih_pl T - 2 - d) (by omega)).1) ?_
        have hob16 := hor (ih_pl T - 2 - d) (by omega)
        refine s_aload_n C 0 dX2_nextRow_17 rfl ?_
        refine s_getR C 2 2 (hp _ _ _ rfl) (by decide) rfl (by decide) rfl (fun _ h => List.mem_cons_of_mem _ (List.mem_append_right _ h)) (by decide) rfl (by decide +kernel) dX2_nextRow_18 ?_
        refine s_iload_n C 1 dX2_nextRow_21 rfl ?_
        refine s_iconst (v := nI 1) C dX2_nextRow_22 (by decide) ?_
        refine s_iaddN C dX2_nextRow_23 ?_
        refine s_iaload C 9 ((ih_pl T - 2 - d) + 1) rfl rfl (by omega) (by decide) (by decide) rfl dX2_nextRow_24 ?_
        refine s_toe (b := nI (ih_or T ((ih_pl T - 2 - d) + 1))) ((hX.2.2.2.2.2.2.1.2 ((ih_pl T - 2 - d) + 1) (by omega)).trans (hI.2.2.1.2.2 ((ih_pl T - 2 - d) + 1) (by omega)).1) ?_
        have hob24 := hor ((ih_pl T - 2 - d) + 1) (by omega)
        refine s_icmp_ltN 34 C dX2_nextRow_25 (by decide) (by omega) (by omega) (fun h25 => ?_) (fun h25 => ?_)
        · refine s_iload_n C 1 dX2_nextRow_34 rfl ?_
          refine s_if_geN 40 C dX2_nextRow_35 (by decide) (by omega) (fun h35 => ?_) (fun h35 => ?_)
          · have hqe : ih_q T = ih_pl T - 1 - d := by
              unfold ih_q
              rw [hnk, show ih_pl T - 1 - d = (ih_pl T - 2 - d) + 1 by omega, of_nk, if_neg (by omega)]
            refine s_aload_n C 0 dX2_nextRow_40 rfl ?_
            refine s_getI C 2 3 (by decide) rfl (by decide) rfl (fun _ h => List.mem_cons_of_mem _ (List.mem_append_right _ h)) (by decide) rfl (by decide +kernel) dX2_nextRow_41 ?_
            refine s_toe (ih_RX_pl hX hI) ?_
            refine s_iconst (v := nI 1) C dX2_nextRow_44 (by decide) ?_
            refine s_isubN C dX2_nextRow_45 (by omega) ?_
            refine s_toe (b := nI (ih_pl T - 1 - 0)) rfl ?_
            refine s_istore_n (lv' := [(2, .int (nI (ih_pl T - 1 - (0)))), (0, .ref (w.2.2 46)), (1, .int (nI (ih_pl T - 2 - d)))]) C dX2_nextRow_46 rfl (by decide) rfl ?_
            have loop_47 : ∀ (fu e : Nat), e + fu = ih_pl T - 2 - (ih_pl T - 2 - d) → ∀ S, (ih_RX S T ∧ of_nj (ih_or T) (ih_or T (ih_pl T - 2 - d)) (ih_pl T - 1) = of_nj (ih_or T) (ih_or T (ih_pl T - 2 - d)) (ih_pl T - 1 - (e))) → ih_Mw x w ih_shX A Q 5 0 0 47 [(0, .ref (w.2.2 46)), (1, .int (nI (ih_pl T - 2 - d))), (2, .int (nI (ih_pl T - 1 - (e))))] [] S := by
              intro fu
              induction fu with
              | zero =>
                intro e hee S ⟨hX, hnj⟩
                have he0 : e = ih_pl T - 2 - (ih_pl T - 2 - d) := by omega
                have hp := hX.1
                refine s_iload_n C 2 dX2_nextRow_47 rfl ?_
                refine s_iload_n C 1 dX2_nextRow_48 rfl ?_
                refine s_icmp_leN 73 C dX2_nextRow_49 (by decide) (by omega) (by omega) (fun h49 => ?_) (fun h49 => ?_)
                · exfalso; omega
                · refine s_aload_n C 0 dX2_nextRow_52 rfl ?_
                  refine s_getR C 2 2 (hp _ _ _ rfl) (by decide) rfl (by decide) rfl (fun _ h => List.mem_cons_of_mem _ (List.mem_append_right _ h)) (by decide) rfl (by decide +kernel) dX2_nextRow_53 ?_
                  refine s_iload_n C 2 dX2_nextRow_56 rfl ?_
                  refine s_iaload C 9 (ih_pl T - 1 - (e)) rfl rfl (by omega) (by decide) (by decide) rfl dX2_nextRow_57 ?_
                  refine s_toe (b := nI (ih_or T (ih_pl T - 1 - (e)))) ((hX.2.2.2.2.2.2.1.2 (ih_pl T - 1 - (e)) (by omega)).trans (hI.2.2.1.2.2 (ih_pl T - 1 - (e)) (by omega)).1) ?_
                  have hob57 := hor (ih_pl T - 1 - (e)) (by omega)
                  refine s_aload_n C 0 dX2_nextRow_58 rfl ?_
                  refine s_getR C 2 2 (hp _ _ _ rfl) (by decide) rfl (by decide) rfl (fun _ h => List.mem_cons_of_mem _ (List.mem_append_right _ h)) (by decide) rfl (by decide +kernel) dX2_nextRow_59 ?_
                  refine s_iload_n C 1 dX2_nextRow_62 rfl ?_
                  refine s_iaload C 9 (ih_pl T - 2 - d) rfl rfl (by omega) (by decide) (by decide) rfl dX2_nextRow_63 ?_
                  refine s_toe (b := nI (ih_or T (ih_pl T - 2 - d))) ((hX.2.2.2.2.2.2.1.2 (ih_pl T - 2 - d) (by omega)).trans (hI.2.2.1.2.2 (ih_pl T - 2 - d) (by omega)).1) ?_
                  have hob63 := hor (ih_pl T - 2 - d) (by omega)
                  refine s_icmp_gtN 73 C dX2_nextRow_64 (by decide) (by omega) (by omega) (fun h64 => ?_) (fun h64 => ?_)
                  · have hje : ih_j T = ih_pl T - 1 - e := by
                      unfold ih_j
                      rw [show ih_q T - 1 = ih_pl T - 2 - d by omega, hnj, show ih_pl T - 1 - e = (ih_pl T - 1 - e - 1) + 1 by omega, of_nj, if_neg (by rw [show ih_pl T - 1 - e - 1 + 1 = ih_pl T - 1 - e by omega]; omega)]
                    refine s_aload_n C 0 dX2_nextRow_73 rfl ?_
                    refine s_iload_n C 1 dX2_nextRow_74 rfl ?_
                    refine s_iload_n C 2 dX2_nextRow_75 rfl ?_
                    refine s_callVv 2 C (c_X2_exchange _ w _ T hX (ih_pl T - 2 - d) (ih_pl T - 1 - e) (by omega) (by omega)) gX2_nextRow_X2_exchange rfl (by decide +kernel) (by decide) (by decide) (by decide) rfl (by decide) rfl rfl rfl (Nat.le_of_ble_eq_true rfl) dX2_nextRow_76 ?_
                    rintro S hX
                    have hp := hX.1
                    rw [show ih_pl T - 2 - d = ih_q T - 1 by omega, ← hje] at hX
                    refine s_iload_n C 1 dX2_nextRow_79 rfl ?_
                    refine s_iconst (v := nI 1) C dX2_nextRow_80 (by decide) ?_
                    refine s_iaddN C dX2_nextRow_81 ?_
                    refine s_toe (b := nI (ih_q T + 0)) (congrArg nI (by omega)) ?_
                    refine s_istore_n (lv' := [(3, .int (nI (ih_q T + 0))), (0, .ref (w.2.2 46)), (1, .int (nI (ih_pl T - 2 - d))), (2, .int (nI (ih_pl T - 1 - (e))))]) C dX2_nextRow_82 rfl (by decide) rfl ?_
                    refine s_aload_n C 1 dX2_nextRow_83 rfl ?_
                    refine s_getI C 2 3 (by decide) rfl (by decide) rfl (fun _ h => List.mem_cons_of_mem _ (List.mem_append_right _ h)) (by decide) rfl (by decide +kernel) dX2_nextRow_84 ?_
                    refine s_toe (b := nI (ih_pl T)) (hX.2.2.2.2.2.2.1.1.trans ((ih_xc_o (by decide) _).trans hI.2.2.1.1)) ?_
                    refine s_iconst (v := nI 1) C dX2_nextRow_87 (by decide) ?_
                    refine s_isubN C dX2_nextRow_88 (by omega) ?_
                    refine s_toe (b := nI (ih_pl T - 1 - 0)) rfl ?_
                    refine s_istore (lv' := [(4, .int (nI (ih_pl T - 1 - 0))), (3, .int (nI (ih_q T + 0))), (0, .ref (w.2.2 46)), (1, .int (nI (ih_pl T - 2 - d))), (2, .int (nI (ih_pl T - 1 - (e))))]) C dX2_nextRow_89 (by decide) rfl ?_
                    have hx_91 : ∀ S, ih_RX S (ih_rvs (ih_xc T (ih_q T - 1) (ih_j T)) (ih_q T) (ih_pl T - 1) ((ih_pl T - ih_q T) / 2)) → ih_Mw x w ih_shX A Q 5 0 0 113 [(0, .ref (w.2.2 46))] [] S := by
                      intro S hX
                      refine s_iconst (v := nI 1) C dX2_nextRow_113 (by decide) ?_
                      rw [hQ]
                      exact s_zreturn C hA dX2_nextRow_114 (by decide) (Or.inr ⟨by omega, rfl, hX⟩)
                    have loop_91 : ∀ (fu r : Nat), r + fu = (ih_pl T - ih_q T) / 2 → ∀ S, ih_RX S (ih_rvs (ih_xc T (ih_q T - 1) (ih_j T)) (ih_q T) (ih_pl T - 1) (r)) → ih_Mw x w ih_shX A Q 5 0 0 91 [(0, .ref (w.2.2 46)), (3, .int (nI (ih_q T + (r)))), (4, .int (nI (ih_pl T - 1 - (r))))] [] S := by
                      intro fu
                      induction fu with
                      | zero =>
                        intro r hre S hX
                        have hr0 : r = (ih_pl T - ih_q T) / 2 := by omega
                        refine s_iload_n C 1 dX2_nextRow_91 rfl ?_
                        refine s_iload C 2 dX2_nextRow_92 rfl ?_
                        refine s_icmp_geN 113 C dX2_nextRow_94 (by decide) (by omega) (by omega) (fun h94 => ?_) (fun h94 => ?_)
                        · refine s_perm [0] rfl ?_
                          subst hr0
                          exact hx_91 _ hX
                        · exfalso; omega
                      | succ fu ih_91 =>
                        intro r hre S hX
                        have hrl : r < (ih_pl T - ih_q T) / 2 := by omega
                        have hp := hX.1
                        refine s_iload_n C 1 dX2_nextRow_91 rfl ?_
                        refine s_iload C 2 dX2_nextRow_92 rfl ?_
                        refine s_icmp_geN 113 C dX2_nextRow_94 (by decide) (by omega) (by omega) (fun h94 => ?_) (fun h94 => ?_)
                        · exfalso; omega
                        · refine s_aload_n C 0 dX2_nextRow_97 rfl ?_
                          refine s_iload_n C 1 dX2_nextRow_98 rfl ?_
                          refine s_iload C 2 dX2_nextRow_99 rfl ?_
                          refine s_callVv 2 C (c_X2_exchange _ w _ _ hX (ih_q T + r) (ih_pl T - 1 - r) (by omega) (by omega)) gX2_nextRow_X2_exchange rfl (by decide +kernel) (by decide) (by decide) (by decide) rfl (by decide) rfl rfl rfl (Nat.le_of_ble_eq_true rfl) dX2_nextRow_101 ?_
                          rintro S hX
                          have hp := hX.1
                          refine s_iinc (u := nI (ih_q T + (r) + 1)) (lv' := [(3, .int (nI (ih_q T + (r) + 1))), (0, .ref (w.2.2 46)), (4, .int (nI (ih_pl T - 1 - (r))))]) C 1 dX2_nextRow_104 rfl (ih_incN (by decide)) (by decide) rfl ?_
                          refine s_iinc (u := nI (ih_pl T - 1 - (r) - 1)) (lv' := [(4, .int (nI (ih_pl T - 1 - (r) - 1))), (3, .int (nI (ih_q T + (r) + 1))), (0, .ref (w.2.2 46))]) C 2 dX2_nextRow_107 rfl (ih_dec (by omega)) (by decide) rfl ?_
                          refine s_goto C 91 dX2_nextRow_110 (by decide) ?_
                          refine s_perm [2, 1, 0] rfl ?_
                          exact ih_91 (r + 1) (by omega) _ hX
                    refine s_perm [2, 1, 0] rfl ?_
                    exact loop_91 ((ih_pl T - ih_q T) / 2) 0 (by omega) _ hX
                  · exfalso; rw [show ih_pl T - 1 - e = ih_pl T - 2 - d + 1 by omega] at h64; omega
              | succ fu ih_47 =>
                intro e hee S ⟨hX, hnj⟩
                have hel : e < ih_pl T - 2 - (ih_pl T - 2 - d) := by omega
                have hp := hX.1
                refine s_iload_n C 2 dX2_nextRow_47 rfl ?_
                refine s_iload_n C 1 dX2_nextRow_48 rfl ?_
                refine s_icmp_leN 73 C dX2_nextRow_49 (by decide) (by omega) (by omega) (fun h49 => ?_) (fun h49 => ?_)
                · exfalso; omega
                · refine s_aload_n C 0 dX2_nextRow_52 rfl ?_
                  refine s_getR C 2 2 (hp _ _ _ rfl) (by decide) rfl (by decide) rfl (fun _ h => List.mem_cons_of_mem _ (List.mem_append_right _ h)) (by decide) rfl (by decide +kernel) dX2_nextRow_53 ?_
                  refine s_iload_n C 2 dX2_nextRow_56 rfl ?_
                  refine s_iaload C 9 (ih_pl T - 1 - (e)) rfl rfl (by omega) (by decide) (by decide) rfl dX2_nextRow_57 ?_
                  refine s_toe (b := nI (ih_or T (ih_pl T - 1 - (e)))) ((hX.2.2.2.2.2.2.1.2 (ih_pl T - 1 - (e)) (by omega)).trans (hI.2.2.1.2.2 (ih_pl T - 1 - (e)) (by omega)).1) ?_
                  have hob57 := hor (ih_pl T - 1 - (e)) (by omega)
                  refine s_aload_n C 0 dX2_nextRow_58 rfl ?_
                  refine s_getR C 2 2 (hp _ _ _ rfl) (by decide) rfl (by decide) rfl (fun _ h => List.mem_cons_of_mem _ (List.mem_append_right _ h)) (by decide) rfl (by decide +kernel) dX2_nextRow_59 ?_
                  refine s_iload_n C 1 dX2_nextRow_62 rfl ?_
                  refine s_iaload C 9 (ih_pl T - 2 - d) rfl rfl (by omega) (by decide) (by decide) rfl dX2_nextRow_63 ?_
                  refine s_toe (b := nI (ih_or T (ih_pl T - 2 - d))) ((hX.2.2.2.2.2.2.1.2 (ih_pl T - 2 - d) (by omega)).trans (hI.2.2.1.2.2 (ih_pl T - 2 - d) (by omega)).1) ?_
                  have hob63 := hor (ih_pl T - 2 - d) (by omega)
                  refine s_icmp_gtN 73 C dX2_nextRow_64 (by decide) (by omega) (by omega) (fun h64 => ?_) (fun h64 => ?_)
                  · have hje : ih_j T = ih_pl T - 1 - e := by
                      unfold ih_j
                      rw [show ih_q T - 1 = ih_pl T - 2 - d by omega, hnj, show ih_pl T - 1 - e = (ih_pl T - 1 - e - 1) + 1 by omega, of_nj, if_neg (by rw [show ih_pl T - 1 - e - 1 + 1 = ih_pl T - 1 - e by omega]; omega)]
                    refine s_aload_n C 0 dX2_nextRow_73 rfl ?_
                    refine s_iload_n C 1 dX2_nextRow_74 rfl ?_
                    refine s_iload_n C 2 dX2_nextRow_75 rfl ?_
                    refine s_callVv 2 C (c_X2_exchange _ w _ T hX (ih_pl T - 2 - d) (ih_pl T - 1 - e) (by omega) (by omega)) gX2_nextRow_X2_exchange rfl (by decide +kernel) (by decide) (by decide) (by decide) rfl (by decide) rfl rfl rfl (Nat.le_of_ble_eq_true rfl) dX2_nextRow_76 ?_
                    rintro S hX
                    have hp := hX.1
                    rw [show ih_pl T - 2 - d = ih_q T - 1 by omega, ← hje] at hX
                    refine s_iload_n C 1 dX2_nextRow_79 rfl ?_
                    refine s_iconst (v := nI 1) C dX2_nextRow_80 (by decide) ?_
                    refine s_iaddN C dX2_nextRow_81 ?_
                    refine s_toe (b := nI (ih_q T + 0)) (congrArg nI (by omega)) ?_
                    refine s_istore_n (lv' := [(3, .int (nI (ih_q T + 0))), (0, .ref (w.2.2 46)), (1, .int (nI (ih_pl T - 2 - d))), (2, .int (nI (ih_pl T - 1 - (e))))]) C dX2_nextRow_82 rfl (by decide) rfl ?_
                    refine s_aload_n C 1 dX2_nextRow_83 rfl ?_
                    refine s_getI C 2 3 (by decide) rfl (by decide) rfl (fun _ h => List.mem_cons_of_mem _ (List.mem_append_right _ h)) (by decide) rfl (by decide +kernel) dX2_nextRow_84 ?_
                    refine s_toe (b := nI (ih_pl T)) (hX.2.2.2.2.2.2.1.1.trans ((ih_xc_o (by decide) _).trans hI.2.2.1.1)) ?_
                    refine s_iconst (v := nI 1) C dX2_nextRow_87 (by decide) ?_
                    refine s_isubN C dX2_nextRow_88 (by omega) ?_
                    refine s_toe (b := nI (ih_pl T - 1 - 0)) rfl ?_
                    refine s_istore (lv' := [(4, .int (nI (ih_pl T - 1 - 0))), (3, .int (nI (ih_q T + 0))), (0, .ref (w.2.2 46)), (1, .int (nI (ih_pl T - 2 - d))), (2, .int (nI (ih_pl T - 1 - (e))))]) C dX2_nextRow_89 (by decide) rfl ?_
                    have hx_91 : ∀ S, ih_RX S (ih_rvs (ih_xc T (ih_q T - 1) (ih_j T)) (ih_q T) (ih_pl T - 1) ((ih_pl T - ih_q T) / 2)) → ih_Mw x w ih_shX A Q 5 0 0 113 [(0, .ref (w.2.2 46))] [] S := by
                      intro S hX
                      refine s_iconst (v := nI 1) C dX2_nextRow_113 (by decide) ?_
                      rw [hQ]
                      exact s_zreturn C hA dX2_nextRow_114 (by decide) (Or.inr ⟨by omega, rfl, hX⟩)
                    have loop_91 : ∀ (fu r : Nat), r + fu = (ih_pl T - ih_q T) / 2 → ∀ S, ih_RX S (ih_rvs (ih_xc T (ih_q T - 1) (ih_j T)) (ih_q T) (ih_pl T - 1) (r)) → ih_Mw x w ih_shX A Q 5 0 0 91 [(0, .ref (w.2.2 46)), (3, .int (nI (ih_q T + (r)))), (4, .int (nI (ih_pl T - 1 - (r))))] [] S := by
                      intro fu
                      induction fu with
                      | zero =>
                        intro r hre S hX
                        have hr0 : r = (ih_pl T - ih_q T) / 2 := by omega
                        refine s_iload_n C 1 dX2_nextRow_91 rfl ?_
                        refine s_iload C 2 dX2_nextRow_92 rfl ?_
                        refine s_icmp_geN 113 C dX2_nextRow_94 (by decide) (by omega) (by omega) (fun h94 => ?_) (fun h94 => ?_)
                        · refine s_perm [0] rfl ?_
                          subst hr0
                          exact hx_91 _ hX
                        · exfalso; omega
                      | succ fu ih_91 =>
                        intro r hre S hX
                        have hrl : r < (ih_pl T - ih_q T) / 2 := by omega
                        have hp := hX.1
                        refine s_iload_n C 1 dX2_nextRow_91 rfl ?_
                        refine s_iload C 2 dX2_nextRow_92 rfl ?_
                        refine s_icmp_geN 113 C dX2_nextRow_94 (by decide) (by omega) (by omega) (fun h94 => ?_) (fun h94 => ?_)
                        · exfalso; omega
                        · refine s_aload_n C 0 dX2_nextRow_97 rfl ?_
                          refine s_iload_n C 1 dX2_nextRow_98 rfl ?_
                          refine s_iload C 2 dX2_nextRow_99 rfl ?_
                          refine s_callVv 2 C (c_X2_exchange _ w _ _ hX (ih_q T + r) (ih_pl T - 1 - r) (by omega) (by omega)) gX2_nextRow_X2_exchange rfl (by decide +kernel) (by decide) (by decide) (by decide) rfl (by decide) rfl rfl rfl (Nat.le_of_ble_eq_true rfl) dX2_nextRow_101 ?_
                          rintro S hX
                          have hp := hX.1
                          refine s_iinc (u := nI (ih_q T + (r) + 1)) (lv' := [(3, .int (nI (ih_q T + (r) + 1))), (0, .ref (w.2.2 46)), (4, .int (nI (ih_pl T - 1 - (r))))]) C 1 dX2_nextRow_104 rfl (ih_incN (by decide)) (by decide) rfl ?_
                          refine s_iinc (u := nI (ih_pl T - 1 - (r) - 1)) (lv' := [(4, .int (nI (ih_pl T - 1 - (r) - 1))), (3, .int (nI (ih_q T + (r) + 1))), (0, .ref (w.2.2 46))]) C 2 dX2_nextRow_107 rfl (ih_dec (by omega)) (by decide) rfl ?_
                          refine s_goto C 91 dX2_nextRow_110 (by decide) ?_
                          refine s_perm [2, 1, 0] rfl ?_
                          exact ih_91 (r + 1) (by omega) _ hX
                    refine s_perm [2, 1, 0] rfl ?_
                    exact loop_91 ((ih_pl T - ih_q T) / 2) 0 (by omega) _ hX
                  · refine s_iinc (u := nI (ih_pl T - 1 - (e) - 1)) (lv' := [(2, .int (nI (ih_pl T - 1 - (e) - 1))), (0, .ref (w.2.2 46)), (1, .int (nI (ih_pl T - 2 - d)))]) C 2 dX2_nextRow_67 rfl (ih_dec (by omega)) (by decide) rfl ?_
                    refine s_goto C 47 dX2_nextRow_70 (by decide) ?_
                    refine s_perm [1, 2, 0] rfl ?_
                    refine ih_47 (e + 1) (by omega) _ ⟨hX, ?_⟩
                    rw [hnj, show ih_pl T - 1 - e = (ih_pl T - 1 - (e + 1)) + 1 by omega, of_nj, if_pos (by rw [show ih_pl T - 1 - (e + 1) + 1 = ih_pl T - 1 - e by omega]; omega)]
            refine s_perm [1, 2, 0] rfl ?_
            exact loop_47 _ 0 (Nat.zero_add _) _ ⟨hX, rfl⟩
          · exfalso; omega
        · obtain ⟨x1_1, ex1_1⟩ : ∃ y : Int32, y = nI (ih_pl T - 2 - d) + Int32.ofInt (-1) := ⟨_, rfl⟩
          refine s_iinc (lv' := [(1, .int x1_1), (0, .ref (w.2.2 46))]) C 1 dX2_nextRow_28 rfl ex1_1.symm (by decide) rfl ?_
          refine s_goto C 7 dX2_nextRow_31 (by decide) ?_
          refine s_perm [1, 0] rfl ?_
          have hx1 : x1_1 = nI (ih_pl T - 1 - (d + 1)) - nI 1 := by rw [ex1_1, ih_m3, show ih_pl T - 2 - d = ih_pl T - 1 - (d + 1) by omega]
          subst hx1
          refine ih_7 (d + 1) (by omega) _ ⟨hX, ?_⟩
          rw [hnk, show ih_pl T - 1 - d = (ih_pl T - 1 - (d + 1)) + 1 by omega, of_nk, if_pos (by rw [show ih_pl T - 1 - (d + 1) + 1 = ih_pl T - 2 - d + 1 by omega, show ih_pl T - 1 - (d + 1) = ih_pl T - 2 - d by omega]; omega)]
  refine s_perm [1, 0] rfl ?_
  exact loop_7 (ih_pl T - 1) 0 (by omega) _ ⟨hX, rfl⟩

