/-! the next row in order -/
def of_nk (f : Nat → Nat) : Nat → Nat
  | 0 => 0
  | q + 1 => if f (q + 1) ≤ f q then of_nk f q else q + 1
def of_nj (f : Nat → Nat) (x : Nat) : Nat → Nat
  | 0 => 0
  | j + 1 => if f (j + 1) ≤ x then of_nj f x j else j + 1
def ih_rvs (T : ih_TT) (a b : Nat) : Nat → ih_TT
  | 0 => T
  | r + 1 => ih_xc (ih_rvs T a b r) (a + r) (b - r)
/-- the place at which the next row differs, and one more; 0: there is none -/
def ih_q (T : ih_TT) : Nat := of_nk (ih_or T) (ih_pl T - 1)
def ih_j (T : ih_TT) : Nat := of_nj (ih_or T) (ih_or T (ih_q T - 1)) (ih_pl T - 1)
def ih_nxt (T : ih_TT) : ih_TT := ih_rvs (ih_xc T (ih_q T - 1) (ih_j T)) (ih_q T) (ih_pl T - 1) ((ih_pl T - ih_q T) / 2)
theorem ih_rvs_o {T : ih_TT} {a b k : Nat} (hk : k ≠ 5) (j : Nat) : ∀ r, ih_rvs T a b r k j = T k j
  | 0 => rfl
  | r + 1 => by
    show ih_xc (ih_rvs T a b r) (a + r) (b - r) k j = _
    rw [ih_xc_o hk, ih_rvs_o hk j r]
theorem ih_rvs_pl {T : ih_TT} {a b r : Nat} : ih_pl (ih_rvs T a b r) = ih_pl T := by unfold ih_pl; rw [ih_rvs_o (by decide)]
theorem ih_rvs_Inv {T : ih_TT} {a b : Nat} (h : ih_Inv T) : ∀ r, (∀ i, i < r → a + i < ih_pl T ∧ b - i < ih_pl T) → ih_Inv (ih_rvs T a b r)
  | 0, _ => h
  | r + 1, hr => by
    have h1 := ih_rvs_Inv h r (fun i hi => hr i (by omega))
    have h2 := hr r (by omega)
    exact ih_xc_Inv h1 (by rw [ih_rvs_pl]; exact h2.1) (by rw [ih_rvs_pl]; exact h2.2)
theorem of_nk_le (f : Nat → Nat) : ∀ q, of_nk f q ≤ q
  | 0 => Nat.le_refl 0
  | q + 1 => by
    have := of_nk_le f q
    unfold of_nk
    split <;> omega
theorem of_nj_le (f : Nat → Nat) (x : Nat) : ∀ q, of_nj f x q ≤ q
  | 0 => Nat.le_refl 0
  | q + 1 => by
    have := of_nj_le f x q
    unfold of_nj
    split <;> omega
theorem ih_nxt_Inv {T : ih_TT} (h : ih_Inv T) (hp : 0 < ih_pl T) : ih_Inv (ih_nxt T) := by
  have h1 : ih_q T ≤ ih_pl T - 1 := of_nk_le _ _
  have h2 : ih_j T ≤ ih_pl T - 1 := of_nj_le _ _ _
  unfold ih_nxt
  refine ih_rvs_Inv (ih_xc_Inv h (by omega) (by omega)) _ (fun i hi => ?_)
  rw [ih_xc_pl]
  omega
theorem ih_nxt_pl {T : ih_TT} : ih_pl (ih_nxt T) = ih_pl T := by unfold ih_nxt; rw [ih_rvs_pl, ih_xc_pl]
theorem ih_p2 {p d : Nat} (hp : d + 1 < p) : nI (p - 1 - d) - nI 1 = nI (p - 2 - d) := by
  rw [pk_sub (by omega), show p - 1 - d - 1 = p - 2 - d by omega]
theorem ih_m2 {p : Nat} (hp : 0 < p) : nI p - nI 2 = nI (p - 1 - 0) - nI 1 := by
  rw [← pk_sub (show 0 ≤ p - 1 by omega), ← pk_sub (show 1 ≤ p by omega), Int32.sub_eq_add_neg, Int32.sub_eq_add_neg, Int32.sub_eq_add_neg, Int32.sub_eq_add_neg, Int32.add_assoc, Int32.add_assoc]
  exact congrArg (fun z => nI p + z) (by decide)
theorem ih_m3 {a : Nat} : nI a + Int32.ofInt (-1) = nI a - nI 1 := by rw [Int32.sub_eq_add_neg]; rfl
set_option maxHeartbeats 4000000 in
set_option maxRecDepth 100000 in
theorem c_X8_nextOrder (l : Launch) (w : ih_Wd) (S : ih_Sg) {T : ih_TT} (hM : ih_RM S T) (hI : ih_Inv T) (hpl0 : 0 < ih_pl T) : ih_Ci l yX8_nextOrder wsX8_nextOrder 1 w ih_shM [.ref (w.2.2 0)] S (fun r S' => (ih_q T = 0 ∧ r = nI 0 ∧ ih_RM S' T) ∨ (0 < ih_q T ∧ r = nI 1 ∧ ih_RM S' (ih_nxt T))) := by
  refine ih_bodyi (ret := some .boolean) rfl rfl (Nat.le_of_ble_eq_true rfl) ?_
  intro x A hA C
  have C : ih_Ok x w A cX8_nextOrder 5 RX8 wsX8_nextOrder (ih_rm 1) (some .boolean) := C
  show ih_Mw x w ih_shM A (ih_Qi x w ih_shM A _) 5 0 0 0 [(0, .ref (w.2.2 0))] [] S
  obtain ⟨Q, hQ⟩ : ∃ Q, Q = ih_Qi x w ih_shM A (fun r S' => (ih_q T = 0 ∧ r = nI 0 ∧ ih_RM S' T) ∨ (0 < ih_q T ∧ r = nI 1 ∧ ih_RM S' (ih_nxt T))) := ⟨_, rfl⟩
  rw [show ih_Qi x w ih_shM A _ = Q from hQ.symm]
  have hpl9 : ih_pl T ≤ 9 := hI.2.2.1.2.1
  have hct : ih_ct T ≤ 12 := hI.2.1.2.1
  have hor : ∀ p, p < ih_pl T → ih_or T p < 12 := fun p hp => by have := (hI.2.2.1.2.2 p hp).2; omega
  refine s_aload_n C 0 dX8_nextOrder_0 rfl ?_
  refine s_getI C 8 7 (by decide) rfl (by decide) rfl (fun _ h => List.mem_cons_of_mem _ (List.mem_append_right _ h)) (by decide) rfl (by decide +kernel) dX8_nextOrder_1 ?_
  refine s_toe (b := nI (ih_pl T)) ((hM.2 _ _ rfl).trans hI.2.2.1.1) ?_
  refine s_iconst (v := nI 2) C dX8_nextOrder_4 (by decide) ?_
  refine s_isub C dX8_nextOrder_5  ?_
  refine s_toe (ih_m2 hpl0) ?_
  refine s_istore_n (lv' := [(1, .int (nI (ih_pl T - 1 - (0)) - nI 1)), (0, .ref (w.2.2 0))]) C dX8_nextOrder_6 rfl (by decide) rfl ?_
  have loop_7 : ∀ (fu d : Nat), d + fu = ih_pl T - 1 → ∀ S, ih_RM S T ∧ of_nk (ih_or T) (ih_pl T - 1) = of_nk (ih_or T) (ih_pl T - 1 - (d)) → ih_Mw x w ih_shM A Q 5 0 0 7 [(0, .ref (w.2.2 0)), (1, .int (nI (ih_pl T - 1 - (d)) - nI 1))] [] S := by
    intro fu
    induction fu with
    | zero =>
      intro d hde S ⟨hM, hnk⟩
      have hd0 : d = ih_pl T - 1 := by omega
      rw [show nI (ih_pl T - 1 - d) - nI 1 = -1 by rw [hd0, Nat.sub_self]; rfl]
      refine s_iload_n C 1 dX8_nextOrder_7 rfl ?_
      refine s_if_lt C 34 dX8_nextOrder_8 (by decide) (fun h8 => ?_) (fun h8 => ?_)
      · simp only [ih_lei, ih_lti, ih_t0] at h8
        refine s_iload_n C 1 dX8_nextOrder_34 rfl ?_
        refine s_if_ge C 40 dX8_nextOrder_35 (by decide) (fun h35 => ?_) (fun h35 => ?_)
        · exact absurd h35 (by decide)
        · simp only [ih_lei, ih_lti, ih_t0] at h35
          refine s_iconst (v := nI 0) C dX8_nextOrder_38 (by decide) ?_
          rw [hQ]
          exact s_zreturn C hA dX8_nextOrder_39 (by decide) (Or.inl ⟨by unfold ih_q; rw [hnk, hd0, Nat.sub_self]; rfl, rfl, hM⟩)
      · exact absurd (by decide) h8
    | succ fu ih_7 =>
      intro d hde S ⟨hM, hnk⟩
      have hdl : d < ih_pl T - 1 := by omega
      rw [ih_p2 (p := ih_pl T) (d := d) (by omega)]
      refine s_iload_n C 1 dX8_nextOrder_7 rfl ?_
      refine s_if_ltN 34 C dX8_nextOrder_8 (by decide) (by omega) (fun h8 => ?_) (fun h8 => ?_)
      · exfalso; omega
      · refine s_aload_n C 0 dX8_nextOrder_11 rfl ?_
        refine s_getR C 8 8 (hM.1 _ _ _ rfl) (by decide) rfl (by decide) rfl (fun _ h => List.mem_cons_of_mem _ (List.mem_append_right _ h)) (by decide) rfl (by decide +kernel) dX8_nextOrder_12 ?_
        refine s_iload_n C 1 dX8_nextOrder_15 rfl ?_
        refine s_iaload C 9 (ih_pl T - 2 - d) rfl rfl (by omega) (by decide) (by decide) rfl dX8_nextOrder_16 ?_
        refine s_toe (b := nI (ih_or T (ih_pl T - 2 - d))) ((hM.2 _ _ rfl).trans (hI.2.2.1.2.2 (ih_pl T - 2 - d) (by omega)).1) ?_
        have hob16 := hor (ih_pl T - 2 - d) (by omega)
        refine s_aload_n C 0 dX8_nextOrder_17 rfl ?_
        refine s_getR C 8 8 (hM.1 _ _ _ rfl) (by decide) rfl (by decide) rfl (fun _ h => List.mem_cons_of_mem _ (List.mem_append_right _ h)) (by decide) rfl (by decide +kernel) dX8_nextOrder_18 ?_
        refine s_iload_n C 1 dX8_nextOrder_21 rfl ?_
        refine s_iconst (v := nI 1) C dX8_nextOrder_22 (by decide) ?_
        refine s_iaddN C dX8_nextOrder_23 ?_
        refine s_iaload C 9 ((ih_pl T - 2 - d) + 1) rfl rfl (by omega) (by decide) (by decide) rfl dX8_nextOrder_24 ?_
        refine s_toe (b := nI (ih_or T ((ih_pl T - 2 - d) + 1))) ((hM.2 _ _ rfl).trans (hI.2.2.1.2.2 ((ih_pl T - 2 - d) + 1) (by omega)).1) ?_
        have hob24 := hor ((ih_pl T - 2 - d) + 1) (by omega)
        refine s_icmp_ltN 34 C dX8_nextOrder_25 (by decide) (by omega) (by omega) (fun h25 => ?_) (fun h25 => ?_)
        · refine s_iload_n C 1 dX8_nextOrder_34 rfl ?_
          refine s_if_geN 40 C dX8_nextOrder_35 (by decide) (by omega) (fun h35 => ?_) (fun h35 => ?_)
          · have hqe : ih_q T = ih_pl T - 1 - d := by
              unfold ih_q
              rw [hnk, show ih_pl T - 1 - d = (ih_pl T - 2 - d) + 1 by omega, of_nk, if_neg (by omega)]
            refine s_aload_n C 0 dX8_nextOrder_40 rfl ?_
            refine s_getI C 8 7 (by decide) rfl (by decide) rfl (fun _ h => List.mem_cons_of_mem _ (List.mem_append_right _ h)) (by decide) rfl (by decide +kernel) dX8_nextOrder_41 ?_
            refine s_toe (b := nI (ih_pl T)) ((hM.2 _ _ rfl).trans hI.2.2.1.1) ?_
            refine s_iconst (v := nI 1) C dX8_nextOrder_44 (by decide) ?_
            refine s_isubN C dX8_nextOrder_45 (by omega) ?_
            refine s_toe (b := nI (ih_pl T - 1 - 0)) rfl ?_
            refine s_istore_n (lv' := [(2, .int (nI (ih_pl T - 1 - (0)))), (0, .ref (w.2.2 0)), (1, .int (nI (ih_pl T - 2 - d)))]) C dX8_nextOrder_46 rfl (by decide) rfl ?_
            have loop_47 : ∀ (fu e : Nat), e + fu = ih_pl T - 2 - (ih_pl T - 2 - d) → ∀ S, ih_RM S T ∧ of_nj (ih_or T) (ih_or T (ih_pl T - 2 - d)) (ih_pl T - 1) = of_nj (ih_or T) (ih_or T (ih_pl T - 2 - d)) (ih_pl T - 1 - (e)) → ih_Mw x w ih_shM A Q 5 0 0 47 [(0, .ref (w.2.2 0)), (1, .int (nI (ih_pl T - 2 - d))), (2, .int (nI (ih_pl T - 1 - (e))))] [] S := by
              intro fu
              induction fu with
              | zero =>
                intro e hee S ⟨hM, hnj⟩
                have he0 : e = ih_pl T - 2 - (ih_pl T - 2 - d) := by omega
                refine s_aload_n C 0 dX8_nextOrder_47 rfl ?_
                refine s_getR C 8 8 (hM.1 _ _ _ rfl) (by decide) rfl (by decide) rfl (fun _ h => List.mem_cons_of_mem _ (List.mem_append_right _ h)) (by decide) rfl (by decide +kernel) dX8_nextOrder_48 ?_
                refine s_iload_n C 2 dX8_nextOrder_51 rfl ?_
                refine s_iaload C 9 (ih_pl T - 1 - (e)) rfl rfl (by omega) (by decide) (by decide) rfl dX8_nextOrder_52 ?_
                refine s_toe (b := nI (ih_or T (ih_pl T - 1 - (e)))) ((hM.2 _ _ rfl).trans (hI.2.2.1.2.2 (ih_pl T - 1 - (e)) (by omega)).1) ?_
                have hob52 := hor (ih_pl T - 1 - (e)) (by omega)
                refine s_aload_n C 0 dX8_nextOrder_53 rfl ?_
                refine s_getR C 8 8 (hM.1 _ _ _ rfl) (by decide) rfl (by decide) rfl (fun _ h => List.mem_cons_of_mem _ (List.mem_append_right _ h)) (by decide) rfl (by decide +kernel) dX8_nextOrder_54 ?_
                refine s_iload_n C 1 dX8_nextOrder_57 rfl ?_
                refine s_iaload C 9 (ih_pl T - 2 - d) rfl rfl (by omega) (by decide) (by decide) rfl dX8_nextOrder_58 ?_
                refine s_toe (b := nI (ih_or T (ih_pl T - 2 - d))) ((hM.2 _ _ rfl).trans (hI.2.2.1.2.2 (ih_pl T - 2 - d) (by omega)).1) ?_
                have hob58 := hor (ih_pl T - 2 - d) (by omega)
                refine s_icmp_gtN 68 C dX8_nextOrder_59 (by decide) (by omega) (by omega) (fun h59 => ?_) (fun h59 => ?_)
                · have hje : ih_j T = ih_pl T - 1 - e := by
                    unfold ih_j
                    rw [show ih_q T - 1 = ih_pl T - 2 - d by omega, hnj, show ih_pl T - 1 - e = (ih_pl T - 1 - e - 1) + 1 by omega, of_nj, if_neg (by rw [show ih_pl T - 1 - e - 1 + 1 = ih_pl T - 1 - e by omega]; omega)]
                  refine s_aload_n C 0 dX8_nextOrder_68 rfl ?_
                  refine s_iload_n C 1 dX8_nextOrder_69 rfl ?_
                  refine s_iload_n C 2 dX8_nextOrder_70 rfl ?_
                  refine s_callVv 2 C (c_X8_exchange _ w _ hM (ih_pl T - 2 - d) (ih_pl T - 1 - e) (by omega) (by omega)) gX8_nextOrder_X8_exchange rfl (by decide +kernel) (by decide) (by decide) (by decide) rfl (by decide) rfl rfl rfl (Nat.le_of_ble_eq_true rfl) dX8_nextOrder_71 ?_
                  rintro S hM
                  rw [show ih_pl T - 2 - d = ih_q T - 1 by omega, ← hje] at hM
                  refine s_iload_n C 1 dX8_nextOrder_74 rfl ?_
                  refine s_iconst (v := nI 1) C dX8_nextOrder_75 (by decide) ?_
                  refine s_iaddN C dX8_nextOrder_76 ?_
                  refine s_toe (b := nI (ih_q T + 0)) (congrArg nI (by omega)) ?_
                  refine s_istore_n (lv' := [(3, .int (nI (ih_q T + 0))), (0, .ref (w.2.2 0)), (1, .int (nI (ih_pl T - 2 - d))), (2, .int (nI (ih_pl T - 1 - (e))))]) C dX8_nextOrder_77 rfl (by decide) rfl ?_
                  refine s_aload_n C 1 dX8_nextOrder_78 rfl ?_
                  refine s_getI C 8 7 (by decide) rfl (by decide) rfl (fun _ h => List.mem_cons_of_mem _ (List.mem_append_right _ h)) (by decide) rfl (by decide +kernel) dX8_nextOrder_79 ?_
                  refine s_toe (b := nI (ih_pl T)) ((hM.2 _ _ rfl).trans ((ih_xc_o (by decide) _).trans hI.2.2.1.1)) ?_
                  refine s_iconst (v := nI 1) C dX8_nextOrder_82 (by decide) ?_
                  refine s_isubN C dX8_nextOrder_83 (by omega) ?_
                  refine s_toe (b := nI (ih_pl T - 1 - 0)) rfl ?_
                  refine s_istore (lv' := [(4, .int (nI (ih_pl T - 1 - 0))), (3, .int (nI (ih_q T + 0))), (0, .ref (w.2.2 0)), (1, .int (nI (ih_pl T - 2 - d))), (2, .int (nI (ih_pl T - 1 - (e))))]) C dX8_nextOrder_84 (by decide) rfl ?_
                  have hx_86 : ∀ S, ih_RM S (ih_rvs (ih_xc T (ih_q T - 1) (ih_j T)) (ih_q T) (ih_pl T - 1) ((ih_pl T - ih_q T) / 2)) → ih_Mw x w ih_shM A Q 5 0 0 108 [(0, .ref (w.2.2 0))] [] S := by
                    intro S hM
                    refine s_iconst (v := nI 1) C dX8_nextOrder_108 (by decide) ?_
                    rw [hQ]
                    exact s_zreturn C hA dX8_nextOrder_109 (by decide) (Or.inr ⟨by omega, rfl, hM⟩)
                  have loop_86 : ∀ (fu r : Nat), r + fu = (ih_pl T - ih_q T) / 2 → ∀ S, ih_RM S (ih_rvs (ih_xc T (ih_q T - 1) (ih_j T)) (ih_q T) (ih_pl T - 1) (r)) → ih_Mw x w ih_shM A Q 5 0 0 86 [(0, .ref (w.2.2 0)), (3, .int (nI (ih_q T + (r)))), (4, .int (nI (ih_pl T - 1 - (r))))] [] S := by
                    intro fu
                    induction fu with
                    | zero =>
                      intro r hre S hM
                      have hr0 : r = (ih_pl T - ih_q T) / 2 := by omega
                      refine s_iload_n C 1 dX8_nextOrder_86 rfl ?_
                      refine s_iload C 2 dX8_nextOrder_87 rfl ?_
                      refine s_icmp_geN 108 C dX8_nextOrder_89 (by decide) (by omega) (by omega) (fun h89 => ?_) (fun h89 => ?_)
                      · refine s_perm [0] rfl ?_
                        subst hr0
                        exact hx_86 _ hM
                      · exfalso; omega
                    | succ fu ih_86 =>
                      intro r hre S hM
                      have hrl : r < (ih_pl T - ih_q T) / 2 := by omega
                      refine s_iload_n C 1 dX8_nextOrder_86 rfl ?_
                      refine s_iload C 2 dX8_nextOrder_87 rfl ?_
                      refine s_icmp_geN 108 C dX8_nextOrder_89 (by decide) (by omega) (by omega) (fun h89 => ?_) (fun h89 => ?_)
                      · exfalso; omega
                      · refine s_aload_n C 0 dX8_nextOrder_92 rfl ?_
                        refine s_iload_n C 1 dX8_nextOrder_93 rfl ?_
                        refine s_iload C 2 dX8_nextOrder_94 rfl ?_
                        refine s_callVv 2 C (c_X8_exchange _ w _ hM (ih_q T + r) (ih_pl T - 1 - r) (by omega) (by omega)) gX8_nextOrder_X8_exchange rfl (by decide +kernel) (by decide) (by decide) (by decide) rfl (by decide) rfl rfl rfl (Nat.le_of_ble_eq_true rfl) dX8_nextOrder_96 ?_
                        rintro S hM
                        refine s_iinc (u := nI (ih_q T + (r) + 1)) (lv' := [(3, .int (nI (ih_q T + (r) + 1))), (0, .ref (w.2.2 0)), (4, .int (nI (ih_pl T - 1 - (r))))]) C 1 dX8_nextOrder_99 rfl (ih_incN (by decide)) (by decide) rfl ?_
                        refine s_iinc (u := nI (ih_pl T - 1 - (r) - 1)) (lv' := [(4, .int (nI (ih_pl T - 1 - (r) - 1))), (3, .int (nI (ih_q T + (r) + 1))), (0, .ref (w.2.2 0))]) C 2 dX8_nextOrder_102 rfl (ih_dec (by omega)) (by decide) rfl ?_
                        refine s_goto C 86 dX8_nextOrder_105 (by decide) ?_
                        refine s_perm [2, 1, 0] rfl ?_
                        exact ih_86 (r + 1) (by omega) _ hM
                  refine s_perm [2, 1, 0] rfl ?_
                  exact loop_86 ((ih_pl T - ih_q T) / 2) 0 (by omega) _ hM
                · exfalso; rw [show ih_pl T - 1 - e = ih_pl T - 2 - d + 1 by omega] at h59; omega
              | succ fu ih_47 =>
                intro e hee S ⟨hM, hnj⟩
                have hel : e < ih_pl T - 2 - (ih_pl T - 2 - d) := by omega
                refine s_aload_n C 0 dX8_nextOrder_47 rfl ?_
                refine s_getR C 8 8 (hM.1 _ _ _ rfl) (by decide) rfl (by decide) rfl (fun _ h => List.mem_cons_of_mem _ (List.mem_append_right _ h)) (by decide) rfl (by decide +kernel) dX8_nextOrder_48 ?_
                refine s_iload_n C 2 dX8_nextOrder_51 rfl ?_
                refine s_iaload C 9 (ih_pl T - 1 - (e)) rfl rfl (by omega) (by decide) (by decide) rfl dX8_nextOrder_52 ?_
                refine s_toe (b := nI (ih_or T (ih_pl T - 1 - (e)))) ((hM.2 _ _ rfl).trans (hI.2.2.1.2.2 (ih_pl T - 1 - (e)) (by omega)).1) ?_
                have hob52 := hor (ih_pl T - 1 - (e)) (by omega)
                refine s_aload_n C 0 dX8_nextOrder_53 rfl ?_
                refine s_getR C 8 8 (hM.1 _ _ _ rfl) (by decide) rfl (by decide) rfl (fun _ h => List.mem_cons_of_mem _ (List.mem_append_right _ h)) (by decide) rfl (by decide +kernel) dX8_nextOrder_54 ?_
                refine s_iload_n C 1 dX8_nextOrder_57 rfl ?_
                refine s_iaload C 9 (ih_pl T - 2 - d) rfl rfl (by omega) (by decide) (by decide) rfl dX8_nextOrder_58 ?_
                refine s_toe (b := nI (ih_or T (ih_pl T - 2 - d))) ((hM.2 _ _ rfl).trans (hI.2.2.1.2.2 (ih_pl T - 2 - d) (by omega)).1) ?_
                have hob58 := hor (ih_pl T - 2 - d) (by omega)
                refine s_icmp_gtN 68 C dX8_nextOrder_59 (by decide) (by omega) (by omega) (fun h59 => ?_) (fun h59 => ?_)
                · have hje : ih_j T = ih_pl T - 1 - e := by
                    unfold ih_j
                    rw [show ih_q T - 1 = ih_pl T - 2 - d by omega, hnj, show ih_pl T - 1 - e = (ih_pl T - 1 - e - 1) + 1 by omega, of_nj, if_neg (by rw [show ih_pl T - 1 - e - 1 + 1 = ih_pl T - 1 - e by omega]; omega)]
                  refine s_aload_n C 0 dX8_nextOrder_68 rfl ?_
                  refine s_iload_n C 1 dX8_nextOrder_69 rfl ?_
                  refine s_iload_n C 2 dX8_nextOrder_70 rfl ?_
                  refine s_callVv 2 C (c_X8_exchange _ w _ hM (ih_pl T - 2 - d) (ih_pl T - 1 - e) (by omega) (by omega)) gX8_nextOrder_X8_exchange rfl (by decide +kernel) (by decide) (by decide) (by decide) rfl (by decide) rfl rfl rfl (Nat.le_of_ble_eq_true rfl) dX8_nextOrder_71 ?_
                  rintro S hM
                  rw [show ih_pl T - 2 - d = ih_q T - 1 by omega, ← hje] at hM
                  refine s_iload_n C 1 dX8_nextOrder_74 rfl ?_
                  refine s_iconst (v := nI 1) C dX8_nextOrder_75 (by decide) ?_
                  refine s_iaddN C dX8_nextOrder_76 ?_
                  refine s_toe (b := nI (ih_q T + 0)) (congrArg nI (by omega)) ?_
                  refine s_istore_n (lv' := [(3, .int (nI (ih_q T + 0))), (0, .ref (w.2.2 0)), (1, .int (nI (ih_pl T - 2 - d))), (2, .int (nI (ih_pl T - 1 - (e))))]) C dX8_nextOrder_77 rfl (by decide) rfl ?_
                  refine s_aload_n C 1 dX8_nextOrder_78 rfl ?_
                  refine s_getI C 8 7 (by decide) rfl (by decide) rfl (fun _ h => List.mem_cons_of_mem _ (List.mem_append_right _ h)) (by decide) rfl (by decide +kernel) dX8_nextOrder_79 ?_
                  refine s_toe (b := nI (ih_pl T)) ((hM.2 _ _ rfl).trans ((ih_xc_o (by decide) _).trans hI.2.2.1.1)) ?_
                  refine s_iconst (v := nI 1) C dX8_nextOrder_82 (by decide) ?_
                  refine s_isubN C dX8_nextOrder_83 (by omega) ?_
                  refine s_toe (b := nI (ih_pl T - 1 - 0)) rfl ?_
                  refine s_istore (lv' := [(4, .int (nI (ih_pl T - 1 - 0))), (3, .int (nI (ih_q T + 0))), (0, .ref (w.2.2 0)), (1, .int (nI (ih_pl T - 2 - d))), (2, .int (nI (ih_pl T - 1 - (e))))]) C dX8_nextOrder_84 (by decide) rfl ?_
                  have hx_86 : ∀ S, ih_RM S (ih_rvs (ih_xc T (ih_q T - 1) (ih_j T)) (ih_q T) (ih_pl T - 1) ((ih_pl T - ih_q T) / 2)) → ih_Mw x w ih_shM A Q 5 0 0 108 [(0, .ref (w.2.2 0))] [] S := by
                    intro S hM
                    refine s_iconst (v := nI 1) C dX8_nextOrder_108 (by decide) ?_
                    rw [hQ]
                    exact s_zreturn C hA dX8_nextOrder_109 (by decide) (Or.inr ⟨by omega, rfl, hM⟩)
                  have loop_86 : ∀ (fu r : Nat), r + fu = (ih_pl T - ih_q T) / 2 → ∀ S, ih_RM S (ih_rvs (ih_xc T (ih_q T - 1) (ih_j T)) (ih_q T) (ih_pl T - 1) (r)) → ih_Mw x w ih_shM A Q 5 0 0 86 [(0, .ref (w.2.2 0)), (3, .int (nI (ih_q T + (r)))), (4, .int (nI (ih_pl T - 1 - (r))))] [] S := by
                    intro fu
                    induction fu with
                    | zero =>
                      intro r hre S hM
                      have hr0 : r = (ih_pl T - ih_q T) / 2 := by omega
                      refine s_iload_n C 1 dX8_nextOrder_86 rfl ?_
                      refine s_iload C 2 dX8_nextOrder_87 rfl ?_
                      refine s_icmp_geN 108 C dX8_nextOrder_89 (by decide) (by omega) (by omega) (fun h89 => ?_) (fun h89 => ?_)
                      · refine s_perm [0] rfl ?_
                        subst hr0
                        exact hx_86 _ hM
                      · exfalso; omega
                    | succ fu ih_86 =>
                      intro r hre S hM
                      have hrl : r < (ih_pl T - ih_q T) / 2 := by omega
                      refine s_iload_n C 1 dX8_nextOrder_86 rfl ?_
                      refine s_iload C 2 dX8_nextOrder_87 rfl ?_
                      refine s_icmp_geN 108 C dX8_nextOrder_89 (by decide) (by omega) (by omega) (fun h89 => ?_) (fun h89 => ?_)
                      · exfalso; omega
                      · refine s_aload_n C 0 dX8_nextOrder_92 rfl ?_
                        refine s_iload_n C 1 dX8_nextOrder_93 rfl ?_
                        refine s_iload C 2 dX8_nextOrder_94 rfl ?_
                        refine s_callVv 2 C (c_X8_exchange _ w _ hM (ih_q T + r) (ih_pl T - 1 - r) (by omega) (by omega)) gX8_nextOrder_X8_exchange rfl (by decide +kernel) (by decide) (by decide) (by decide) rfl (by decide) rfl rfl rfl (Nat.le_of_ble_eq_true rfl) dX8_nextOrder_96 ?_
                        rintro S hM
                        refine s_iinc (u := nI (ih_q T + (r) + 1)) (lv' := [(3, .int (nI (ih_q T + (r) + 1))), (0, .ref (w.2.2 0)), (4, .int (nI (ih_pl T - 1 - (r))))]) C 1 dX8_nextOrder_99 rfl (ih_incN (by decide)) (by decide) rfl ?_
                        refine s_iinc (u := nI (ih_pl T - 1 - (r) - 1)) (lv' := [(4, .int (nI (ih_pl T - 1 - (r) - 1))), (3, .int (nI (ih_q T + (r) + 1))), (0, .ref (w.2.2 0))]) C 2 dX8_nextOrder_102 rfl (ih_dec (by omega)) (by decide) rfl ?_
                        refine s_goto C 86 dX8_nextOrder_105 (by decide) ?_
                        refine s_perm [2, 1, 0] rfl ?_
                        exact ih_86 (r + 1) (by omega) _ hM
                  refine s_perm [2, 1, 0] rfl ?_
                  exact loop_86 ((ih_pl T - ih_q T) / 2) 0 (by omega) _ hM
                · refine s_iinc (u := nI (ih_pl T - 1 - (e) - 1)) (lv' := [(2, .int (nI (ih_pl T - 1 - (e) - 1))), (0, .ref (w.2.2 0)), (1, .int (nI (ih_pl T - 2 - d)))]) C 2 dX8_nextOrder_62 rfl (ih_dec (by omega)) (by decide) rfl ?_
                  refine s_goto C 47 dX8_nextOrder_65 (by decide) ?_
                  refine s_perm [1, 2, 0] rfl ?_
                  refine ih_47 (e + 1) (by omega) _ ⟨hM, ?_⟩
                  rw [hnj, show ih_pl T - 1 - e = (ih_pl T - 1 - (e + 1)) + 1 by omega, of_nj, if_pos (by rw [show ih_pl T - 1 - (e + 1) + 1 = ih_pl T - 1 - e by omega]; omega)]
            refine s_perm [1, 2, 0] rfl ?_
            exact loop_47 _ 0 (Nat.zero_add _) _ ⟨hM, rfl⟩
          · exfalso; omega
        · obtain ⟨x1_1, ex1_1⟩ : ∃ y : Int32, y = nI (ih_pl T - 2 - d) + Int32.ofInt (-1) := ⟨_, rfl⟩
          refine s_iinc (lv' := [(1, .int x1_1), (0, .ref (w.2.2 0))]) C 1 dX8_nextOrder_28 rfl ex1_1.symm (by decide) rfl ?_
          refine s_goto C 7 dX8_nextOrder_31 (by decide) ?_
          refine s_perm [1, 0] rfl ?_
          have hx1 : x1_1 = nI (ih_pl T - 1 - (d + 1)) - nI 1 := by rw [ex1_1, ih_m3, show ih_pl T - 2 - d = ih_pl T - 1 - (d + 1) by omega]
          subst hx1
          refine ih_7 (d + 1) (by omega) _ ⟨hM, ?_⟩
          rw [hnk, show ih_pl T - 1 - d = (ih_pl T - 1 - (d + 1)) + 1 by omega, of_nk, if_pos (by rw [show ih_pl T - 1 - (d + 1) + 1 = ih_pl T - 2 - d + 1 by omega, show ih_pl T - 1 - (d + 1) = ih_pl T - 2 - d by omega]; omega)]
  refine s_perm [1, 0] rfl ?_
  exact loop_7 (ih_pl T - 1) 0 (by omega) _ ⟨hM, rfl⟩

