theorem ih_RM_h {S : ih_Sg} {T : ih_TT} {k j : Nat} {v : Int32} (hM : ih_RM S T) (hv : ih_vis k j = false) : ih_RM (ih_sI S k j v) T := by
  refine ⟨hM.1, fun a b h => ?_⟩
  show ih_u2 S.1 k j v a b = T a b
  unfold ih_u2
  split
  · next h2 => rw [h2.1, h2.2, hv] at h; cases h
  · exact hM.2 a b h
/-- the chances of the striker at a place of the order -/
def ih_cc (T : ih_TT) (p a : Nat) : Nat := ih_ch T (ih_or T p) a
theorem ih_cc_ok {T : ih_TT} (h : ih_Inv T) : ih_ok (ih_cc T) (ih_pl T) := by
  intro p hp
  have h1 := (h.2.1.2.2 (ih_or T p) (h.2.2.1.2.2 p hp).2).2
  rw [ih_sum_6]
  exact h1
theorem ih_cc_e {T : ih_TT} (h : ih_Inv T) {p a : Nat} (hp : p < ih_pl T) (ha : a < 7) : T 4 (7 * ih_or T p + a) = nI (ih_cc T p a) ∧ ih_cc T p a ≤ 1000 := (h.2.1.2.2 (ih_or T p) (h.2.2.1.2.2 p hp).2).1 a ha
theorem ih_mean_p {c : Nat → Nat → Nat} {pl n p s : Nat} (hn : 0 < n) (hs : s < 24) : ih_mean c pl n p s = ih_sum (ih_mf c pl (n - 1) p s) 6 / 1000 := by
  obtain ⟨m, rfl⟩ : ∃ m, n = m + 1 := ⟨n - 1, by omega⟩
  exact ih_mean_s hs
theorem ih_mean_n {c : Nat → Nat → Nat} {pl n p s : Nat} (h : ¬ (0 < n ∧ s < 24)) : ih_mean c pl n p s = 0 := by
  rcases Nat.lt_or_ge s 24 with hs | hs
  · have : n = 0 := by omega
    subst this; rfl
  · exact ih_mean_o (by omega)
/-- the table of means, up to a place -/
def ih_MT (I : Nat → Nat → Int32) (c : Nat → Nat → Nat) (pl N P Z : Nat) : Prop := ∀ n p s, p < pl → s < 25 → (n < N ∨ (n = N ∧ (p < P ∨ (p = P ∧ s < Z)))) → I 6 (225 * n + 25 * p + s) = nI (ih_mean c pl n p s)
theorem ih_MT_w {S : ih_Sg} {c : Nat → Nat → Nat} {pl N P Z : Nat} {v : Int32} (h : ih_MT S.1 c pl N P Z) (hv : v = nI (ih_mean c pl N P Z)) (hpl : pl ≤ 9) (hP : P < pl) (hZ : Z < 25) : ih_MT (ih_sI S 6 (225 * N + 25 * P + Z) v).1 c pl N P (Z + 1) := by
  intro n p s hp hs hc
  show ih_u2 S.1 6 (225 * N + 25 * P + Z) v 6 (225 * n + 25 * p + s) = _
  by_cases he : n = N ∧ p = P ∧ s = Z
  · obtain ⟨rfl, rfl, rfl⟩ := he
    rw [ih_u2_s]; exact hv
  · rw [ih_u2_j (by omega)]
    exact h n p s hp hs (by omega)
theorem ih_MT_p {I : Nat → Nat → Int32} {c : Nat → Nat → Nat} {pl N P : Nat} (h : ih_MT I c pl N P 25) : ih_MT I c pl N (P + 1) 0 := fun n p s hp hs hc => h n p s hp hs (by omega)
theorem ih_MT_n {I : Nat → Nat → Int32} {c : Nat → Nat → Nat} {pl N : Nat} (h : ih_MT I c pl N pl 0) : ih_MT I c pl (N + 1) 0 0 := fun n p s hp hs hc => h n p s hp hs (by omega)
def sp_mean (T : ih_TT) (s p n : Int32) : Int32 := if (0 ≤ s.toInt ∧ s.toInt ≤ 24) ∧ (0 ≤ p.toInt ∧ p.toInt < ih_pl T) ∧ (0 ≤ n.toInt ∧ n.toInt ≤ 30) then nI (ih_mean (ih_cc T) (ih_pl T) (ih_n n) (ih_n p) (ih_n s)) else -1000001
def sp_worth (T : ih_TT) (s a p n : Int32) : Int32 := if (0 ≤ s.toInt ∧ s.toInt ≤ 23) ∧ (0 ≤ a.toInt ∧ a.toInt ≤ 6) ∧ (0 ≤ p.toInt ∧ p.toInt < ih_pl T) ∧ (1 ≤ n.toInt ∧ n.toInt ≤ 30) then nI (ih_rn (ih_n s) (ih_n a) * 1000000 + ih_mean (ih_cc T) (ih_pl T) (ih_n n - 1) ((ih_n p + 1) % ih_pl T) (ih_nx (ih_n s) (ih_n a))) - nI (ih_mean (ih_cc T) (ih_pl T) (ih_n n) (ih_n p) (ih_n s)) else -1000001
def ih_rt (T : ih_TT) : Nat := ih_mean (ih_cc T) (ih_pl T) 30 0 0 + ih_mean (ih_cc T) (ih_pl T) 30 (ih_pl T / 2) 0
def sp_rate (T : ih_TT) : Int32 := if ih_pl T = 0 then -1000002 else nI (ih_rt T)
set_option maxHeartbeats 4000000 in
set_option maxRecDepth 100000 in
theorem c_X8_findMeans (l : Launch) (w : ih_Wd) (S : ih_Sg) (T : ih_TT) (hM : ih_RM S T) (hI : ih_Inv T) (hpl0 : 0 < ih_pl T) (st : Nat) (hst : st ≤ 30) : ih_Cv l yX8_findMeans wsX8_findMeans 2 w ih_shM [.ref (w.2.2 0), .int (nI st)] S (fun S' => ih_RM S' T ∧ ih_MT S'.1 (ih_cc T) (ih_pl T) (st + 1) 0 0) := by
  refine ih_bodyv (ret := none) rfl rfl (Nat.le_of_ble_eq_true rfl) ?_
  intro x A hA C
  have C : ih_Ok x w A cX8_findMeans 11 RX8 wsX8_findMeans (ih_rm 2) (none) := C
  show ih_Mw x w ih_shM A (ih_Qv x w ih_shM A _) 11 0 0 0 [(0, .ref (w.2.2 0)), (1, .int (nI st))] [] S
  obtain ⟨Q, hQ⟩ : ∃ Q, Q = ih_Qv x w ih_shM A (fun S' => ih_RM S' T ∧ ih_MT S'.1 (ih_cc T) (ih_pl T) (st + 1) 0 0) := ⟨_, rfl⟩
  rw [show ih_Qv x w ih_shM A _ = Q from hQ.symm]
  have hpl9 : ih_pl T ≤ 9 := hI.2.2.1.2.1
  have hct : ih_ct T ≤ 12 := hI.2.1.2.1
  have hok := ih_cc_ok hI
  have hor : ∀ p, p < ih_pl T → ih_or T p < 12 := fun p hp => by have := (hI.2.2.1.2.2 p hp).2; omega
  refine s_iconst (v := nI 0) C dX8_findMeans_0 (by decide) ?_
  refine s_istore_n (lv' := [(2, .int (nI 0)), (0, .ref (w.2.2 0)), (1, .int (nI st))]) C dX8_findMeans_1 rfl (by decide) rfl ?_
  have hx_2 : ∀ S, ih_RM S T ∧ ih_MT S.1 (ih_cc T) (ih_pl T) (st + 1) 0 0 → ih_Mw x w ih_shM A Q 11 0 0 189 [(0, .ref (w.2.2 0)), (1, .int (nI st)), (2, .int (nI (st + 1)))] [] S := by
    intro S ⟨hM, ht⟩
    rw [hQ]
    exact s_vreturn C hA dX8_findMeans_189 ⟨hM, ht⟩
  have loop_2 : ∀ (fu n : Nat), n + fu = st + 1 → ∀ S, ih_RM S T ∧ ih_MT S.1 (ih_cc T) (ih_pl T) (n) 0 0 → ih_Mw x w ih_shM A Q 11 0 0 2 [(0, .ref (w.2.2 0)), (1, .int (nI st)), (2, .int (nI n))] [] S := by
    intro fu
    induction fu with
    | zero =>
      intro n hne S ⟨hM, ht⟩
      have hn0 : n = st + 1 := by omega
      refine s_iload_n C 2 dX8_findMeans_2 rfl ?_
      refine s_iload_n C 1 dX8_findMeans_3 rfl ?_
      refine s_icmp_gtN 189 C dX8_findMeans_4 (by decide) (by omega) (by omega) (fun h4 => ?_) (fun h4 => ?_)
      · subst hn0
        exact hx_2 _ ⟨hM, ht⟩
      · exfalso; omega
    | succ fu ih_2 =>
      intro n hne S ⟨hM, ht⟩
      have hnl : n < st + 1 := by omega
      refine s_iload_n C 2 dX8_findMeans_2 rfl ?_
      refine s_iload_n C 1 dX8_findMeans_3 rfl ?_
      refine s_icmp_gtN 189 C dX8_findMeans_4 (by decide) (by omega) (by omega) (fun h4 => ?_) (fun h4 => ?_)
      · exfalso; omega
      · refine s_iconst (v := nI 0) C dX8_findMeans_7 (by decide) ?_
        refine s_istore_n (lv' := [(3, .int (nI 0)), (0, .ref (w.2.2 0)), (1, .int (nI st)), (2, .int (nI n))]) C dX8_findMeans_8 rfl (by decide) rfl ?_
        have hx_9 : ∀ S, ih_RM S T ∧ ih_MT S.1 (ih_cc T) (ih_pl T) n (ih_pl T) 0 → ih_Mw x w ih_shM A Q 11 0 0 183 [(0, .ref (w.2.2 0)), (1, .int (nI st)), (2, .int (nI n)), (3, .int (nI (ih_pl T)))] [] S := by
          intro S ⟨hM, ht⟩
          refine s_iinc (u := nI (n + 1)) (lv' := [(2, .int (nI (n + 1))), (0, .ref (w.2.2 0)), (1, .int (nI st)), (3, .int (nI (ih_pl T)))]) C 2 dX8_findMeans_183 rfl (ih_incN (by decide)) (by decide) rfl ?_
          refine s_goto C 2 dX8_findMeans_186 (by decide) ?_
          refine s_perm [1, 2, 0] rfl ?_
          exact ih_2 (n + 1) (by omega) _ ⟨hM, ih_MT_n ht⟩
        have loop_9 : ∀ (fu p : Nat), p + fu = ih_pl T → ∀ S, ih_RM S T ∧ ih_MT S.1 (ih_cc T) (ih_pl T) n (p) 0 → ih_Mw x w ih_shM A Q 11 0 0 9 [(0, .ref (w.2.2 0)), (1, .int (nI st)), (2, .int (nI n)), (3, .int (nI p))] [] S := by
          intro fu
          induction fu with
          | zero =>
            intro p hpe S ⟨hM, ht⟩
            have hp0 : p = ih_pl T := by omega
            refine s_iload_n C 3 dX8_findMeans_9 rfl ?_
            refine s_aload_n C 0 dX8_findMeans_10 rfl ?_
            refine s_getI C 8 7 (by decide) rfl (by decide) rfl (fun _ h => List.mem_cons_of_mem _ (List.mem_append_right _ h)) (by decide) rfl (by decide +kernel) dX8_findMeans_11 ?_
            refine s_toe (b := T 0 7) (hM.2 _ _ rfl) ?_
            refine s_toe (b := nI (ih_pl T)) hI.2.2.1.1 ?_
            refine s_icmp_geN 183 C dX8_findMeans_14 (by decide) (by omega) (by omega) (fun h14 => ?_) (fun h14 => ?_)
            · subst hp0
              exact hx_9 _ ⟨hM, ht⟩
            · exfalso; omega
          | succ fu ih_9 =>
            intro p hpe S ⟨hM, ht⟩
            have hpl : p < ih_pl T := by omega
            have hpl : p < ih_pl T := by omega
            have hmod := Nat.mod_lt (p + 1) hpl0
            have hop := hor p hpl
            refine s_iload_n C 3 dX8_findMeans_9 rfl ?_
            refine s_aload_n C 0 dX8_findMeans_10 rfl ?_
            refine s_getI C 8 7 (by decide) rfl (by decide) rfl (fun _ h => List.mem_cons_of_mem _ (List.mem_append_right _ h)) (by decide) rfl (by decide +kernel) dX8_findMeans_11 ?_
            refine s_toe (b := T 0 7) (hM.2 _ _ rfl) ?_
            refine s_toe (b := nI (ih_pl T)) hI.2.2.1.1 ?_
            refine s_icmp_geN 183 C dX8_findMeans_14 (by decide) (by omega) (by omega) (fun h14 => ?_) (fun h14 => ?_)
            · exfalso; omega
            · refine s_iload_n C 3 dX8_findMeans_17 rfl ?_
              refine s_iconst (v := nI 1) C dX8_findMeans_18 (by decide) ?_
              refine s_iaddN C dX8_findMeans_19 ?_
              refine s_aload_n C 0 dX8_findMeans_20 rfl ?_
              refine s_getI C 8 7 (by decide) rfl (by decide) rfl (fun _ h => List.mem_cons_of_mem _ (List.mem_append_right _ h)) (by decide) rfl (by decide +kernel) dX8_findMeans_21 ?_
              refine s_toe (b := T 0 7) (hM.2 _ _ rfl) ?_
              refine s_toe (b := nI (ih_pl T)) hI.2.2.1.1 ?_
              refine s_iremN C dX8_findMeans_24 (by omega) (by omega) (by omega) ?_
              refine s_istore (lv' := [(4, .int (nI ((p + 1) % (ih_pl T)))), (0, .ref (w.2.2 0)), (1, .int (nI st)), (2, .int (nI n)), (3, .int (nI p))]) C dX8_findMeans_25 (by decide) rfl ?_
              refine s_iconst (v := nI 0) C dX8_findMeans_27 (by decide) ?_
              refine s_istore (lv' := [(5, .int (nI 0)), (4, .int (nI ((p + 1) % (ih_pl T)))), (0, .ref (w.2.2 0)), (1, .int (nI st)), (2, .int (nI n)), (3, .int (nI p))]) C dX8_findMeans_28 (by decide) rfl ?_
              have hx_30 : ∀ S, ih_RM S T ∧ ih_MT S.1 (ih_cc T) (ih_pl T) n p (25) → ih_Mw x w ih_shM A Q 11 0 0 177 [(0, .ref (w.2.2 0)), (1, .int (nI st)), (2, .int (nI n)), (3, .int (nI p)), (4, .int (nI ((p + 1) % ih_pl T))), (5, .int (nI 25))] [] S := by
                intro S ⟨hM, ht⟩
                refine s_iinc (u := nI (p + 1)) (lv' := [(3, .int (nI (p + 1))), (0, .ref (w.2.2 0)), (1, .int (nI st)), (2, .int (nI n)), (4, .int (nI ((p + 1) % ih_pl T))), (5, .int (nI 25))]) C 3 dX8_findMeans_177 rfl (ih_incN (by decide)) (by decide) rfl ?_
                refine s_goto C 9 dX8_findMeans_180 (by decide) ?_
                refine s_perm [1, 2, 3, 0] rfl ?_
                exact ih_9 (p + 1) (by omega) _ ⟨hM, ih_MT_p ht⟩
              have loop_30 : ∀ (fu s : Nat), s + fu = 25 → ∀ S, ih_RM S T ∧ ih_MT S.1 (ih_cc T) (ih_pl T) n p (s) → ih_Mw x w ih_shM A Q 11 0 0 30 [(0, .ref (w.2.2 0)), (1, .int (nI st)), (2, .int (nI n)), (3, .int (nI p)), (4, .int (nI ((p + 1) % ih_pl T))), (5, .int (nI s))] [] S := by
                intro fu
                induction fu with
                | zero =>
                  intro s hse S ⟨hM, ht⟩
                  have hs0 : s = 25 := by omega
                  refine s_iload C 5 dX8_findMeans_30 rfl ?_
                  refine s_bipush (v := nI 25) C dX8_findMeans_32 (by decide) ?_
                  refine s_icmp_geN 177 C dX8_findMeans_34 (by decide) (by omega) (by omega) (fun h34 => ?_) (fun h34 => ?_)
                  · subst hs0
                    exact hx_30 _ ⟨hM, ht⟩
                  · exfalso; omega
                | succ fu ih_30 =>
                  intro s hse S ⟨hM, ht⟩
                  have hsl : s < 25 := by omega
                  refine s_iload C 5 dX8_findMeans_30 rfl ?_
                  refine s_bipush (v := nI 25) C dX8_findMeans_32 (by decide) ?_
                  refine s_icmp_geN 177 C dX8_findMeans_34 (by decide) (by omega) (by omega) (fun h34 => ?_) (fun h34 => ?_)
                  · exfalso; omega
                  · refine s_lconst (v := lN 0) C dX8_findMeans_37 rfl ?_
                    refine s_lstore (lv' := [(6, .long (lN (0))), (0, .ref (w.2.2 0)), (1, .int (nI st)), (2, .int (nI n)), (3, .int (nI p)), (4, .int (nI ((p + 1) % ih_pl T))), (5, .int (nI s))]) C dX8_findMeans_38 (by decide) rfl ?_
                    refine s_iconst (v := nI 0) C dX8_findMeans_40 (by decide) ?_
                    refine s_istore (lv' := [(8, .int (nI 0)), (6, .long (lN (0))), (0, .ref (w.2.2 0)), (1, .int (nI st)), (2, .int (nI n)), (3, .int (nI p)), (4, .int (nI ((p + 1) % ih_pl T))), (5, .int (nI s))]) C dX8_findMeans_41 (by decide) rfl ?_
                    by_cases hns : 0 < n ∧ s < 24
                    · have hx_43 : ∀ S, ih_RM S T ∧ ih_MT S.1 (ih_cc T) (ih_pl T) n p s → ih_Mw x w ih_shM A Q 11 0 0 146 [(0, .ref (w.2.2 0)), (1, .int (nI st)), (2, .int (nI n)), (3, .int (nI p)), (4, .int (nI ((p + 1) % ih_pl T))), (5, .int (nI s)), (6, .long (lN (ih_sum (ih_mf (ih_cc T) (ih_pl T) (n - 1) p s) (6)))), (8, .int (nI 6))] [] S := by
                        intro S ⟨hM, ht⟩
                        have hsb := ih_mf_le hpl0 hok hpl hns.2 (n := n - 1) (by omega) (Nat.le_refl 6)
                        refine s_aload_n C 0 dX8_findMeans_146 rfl ?_
                        refine s_getR C 8 9 (hM.1 _ _ _ rfl) (by decide) rfl (by decide) rfl (fun _ h => List.mem_cons_of_mem _ (List.mem_append_right _ h)) (by decide) rfl (by decide +kernel) dX8_findMeans_147 ?_
                        refine s_sipush (v := nI 225) C dX8_findMeans_150 (by decide) ?_
                        refine s_iload_n C 2 dX8_findMeans_153 rfl ?_
                        refine s_imulN C dX8_findMeans_154 ?_
                        refine s_bipush (v := nI 25) C dX8_findMeans_155 (by decide) ?_
                        refine s_iload_n C 3 dX8_findMeans_157 rfl ?_
                        refine s_imulN C dX8_findMeans_158 ?_
                        refine s_iaddN C dX8_findMeans_159 ?_
                        refine s_iload C 5 dX8_findMeans_160 rfl ?_
                        refine s_iaddN C dX8_findMeans_162 ?_
                        refine s_lload C 6 dX8_findMeans_163 rfl ?_
                        refine s_ldc2 (v := lN 1000) C (by decide +kernel) dX8_findMeans_165 ?_
                        refine s_ldivN C dX8_findMeans_168 (by omega) (by omega) (by omega) ?_
                        refine s_l2iN C dX8_findMeans_169 ?_
                        refine s_iastore C 6975 (((225 * n) + (25 * p)) + s) rfl rfl (by omega) (by decide) (by decide) rfl dX8_findMeans_170 ?_
                        refine s_iinc (u := nI (s + 1)) (lv' := [(5, .int (nI (s + 1))), (0, .ref (w.2.2 0)), (1, .int (nI st)), (2, .int (nI n)), (3, .int (nI p)), (4, .int (nI ((p + 1) % ih_pl T))), (6, .long (lN (ih_sum (ih_mf (ih_cc T) (ih_pl T) (n - 1) p s) (6)))), (8, .int (nI 6))]) C 5 dX8_findMeans_171 rfl (ih_incN (by decide)) (by decide) rfl ?_
                        refine s_goto C 30 dX8_findMeans_174 (by decide) ?_
                        refine s_perm [1, 2, 3, 4, 5, 0] rfl ?_
                        exact ih_30 (s + 1) (by omega) _ ⟨ih_RM_h hM rfl, ih_MT_w ht (by first | (rw [ih_mean_p hns.1 hns.2]) | (rw [ih_mean_n hns]; rfl) | (rw [ih_mean_n hns])) hpl9 hpl (by omega)⟩
                      have loop_43 : ∀ (fu a : Nat), a + fu = 6 → ∀ S, ih_RM S T ∧ ih_MT S.1 (ih_cc T) (ih_pl T) n p s → ih_Mw x w ih_shM A Q 11 0 0 43 [(0, .ref (w.2.2 0)), (1, .int (nI st)), (2, .int (nI n)), (3, .int (nI p)), (4, .int (nI ((p + 1) % ih_pl T))), (5, .int (nI s)), (6, .long (lN (ih_sum (ih_mf (ih_cc T) (ih_pl T) (n - 1) p s) (a)))), (8, .int (nI a))] [] S := by
                        intro fu
                        induction fu with
                        | zero =>
                          intro a hae S ⟨hM, ht⟩
                          have ha0 : a = 6 := by omega
                          refine s_iload C 7 dX8_findMeans_43 rfl ?_
                          refine s_bipush (v := nI 6) C dX8_findMeans_45 (by decide) ?_
                          refine s_icmp_geN 146 C dX8_findMeans_47 (by decide) (by omega) (by omega) (fun h47 => ?_) (fun h47 => ?_)
                          · subst ha0
                            exact hx_43 _ ⟨hM, ht⟩
                          · exfalso; omega
                        | succ fu ih_43 =>
                          intro a hae S ⟨hM, ht⟩
                          have hal : a < 6 := by omega
                          refine s_iload C 7 dX8_findMeans_43 rfl ?_
                          refine s_bipush (v := nI 6) C dX8_findMeans_45 (by decide) ?_
                          refine s_icmp_geN 146 C dX8_findMeans_47 (by decide) (by omega) (by omega) (fun h47 => ?_) (fun h47 => ?_)
                          · exfalso; omega
                          · refine s_iload_n C 2 dX8_findMeans_50 rfl ?_
                            refine s_if_leN 146 C dX8_findMeans_51 (by decide) (by omega) (fun h51 => ?_) (fun h51 => ?_)
                            · exfalso; omega
                            · refine s_iload C 5 dX8_findMeans_54 rfl ?_
                              refine s_bipush (v := nI 24) C dX8_findMeans_56 (by decide) ?_
                              refine s_icmp_geN 146 C dX8_findMeans_58 (by decide) (by omega) (by omega) (fun h58 => ?_) (fun h58 => ?_)
                              · exfalso; omega
                              · refine s_aload_n C 0 dX8_findMeans_61 rfl ?_
                                refine s_getR C 8 6 (hM.1 _ _ _ rfl) (by decide) rfl (by decide) rfl (fun _ h => List.mem_cons_of_mem _ (List.mem_append_right _ h)) (by decide) rfl (by decide +kernel) dX8_findMeans_62 ?_
                                refine s_bipush (v := nI 7) C dX8_findMeans_65 (by decide) ?_
                                refine s_aload_n C 0 dX8_findMeans_67 rfl ?_
                                refine s_getR C 8 8 (hM.1 _ _ _ rfl) (by decide) rfl (by decide) rfl (fun _ h => List.mem_cons_of_mem _ (List.mem_append_right _ h)) (by decide) rfl (by decide +kernel) dX8_findMeans_68 ?_
                                refine s_iload_n C 3 dX8_findMeans_71 rfl ?_
                                refine s_iaload C 9 (p) rfl rfl (by omega) (by decide) (by decide) rfl dX8_findMeans_72 ?_
                                refine s_toe (b := T 5 p) (hM.2 _ _ rfl) ?_
                                refine s_toe (b := nI (ih_or T p)) (hI.2.2.1.2.2 p hpl).1 ?_
                                refine s_imulN C dX8_findMeans_73 ?_
                                refine s_iload C 7 dX8_findMeans_74 rfl ?_
                                refine s_iaddN C dX8_findMeans_76 ?_
                                refine s_iaload C 84 ((7 * (ih_or T p)) + a) rfl rfl (by omega) (by decide) (by decide) rfl dX8_findMeans_77 ?_
                                refine s_toe (b := T 4 ((7 * (ih_or T p)) + a)) (hM.2 _ _ rfl) ?_
                                refine s_toe (b := nI (ih_cc T p a)) (ih_cc_e hI hpl (by omega)).1 ?_
                                have hcb := (ih_cc_e hI (a := a) hpl (by omega)).2
                                refine s_i2lN C dX8_findMeans_78 (by omega) ?_
                                refine s_lstore (lv' := [(9, .long (lN (ih_cc T p a))), (0, .ref (w.2.2 0)), (1, .int (nI st)), (2, .int (nI n)), (3, .int (nI p)), (4, .int (nI ((p + 1) % ih_pl T))), (5, .int (nI s)), (6, .long (lN (ih_sum (ih_mf (ih_cc T) (ih_pl T) (n - 1) p s) (a)))), (8, .int (nI a))]) C dX8_findMeans_79 (by decide) rfl ?_
                                refine s_lload C 7 dX8_findMeans_81 rfl ?_
                                refine s_lload C 0 dX8_findMeans_83 rfl ?_
                                refine s_lconst (v := lN 0) C dX8_findMeans_85 rfl ?_
                                refine s_lcmp C dX8_findMeans_86 ?_
                                refine s_if_ne C 94 dX8_findMeans_87 (by decide) (fun h87 => ?_) (fun h87 => ?_)
                                · rw [lg_cmp_eq, pk_lEQ (by omega) (by omega)] at h87
                                  refine s_lload C 0 dX8_findMeans_94 rfl ?_
                                  refine s_iload C 6 dX8_findMeans_96 rfl ?_
                                  refine s_iload C 8 dX8_findMeans_98 rfl ?_
                                  refine s_callSi 2 C (c_X8_runs _ w _ s a hns.2 (by omega)) gX8_findMeans_X8_runs rfl (by decide +kernel) (by decide) (by decide) rfl rfl (Nat.le_of_ble_eq_true rfl) dX8_findMeans_100 ?_
                                  rintro rr S2 ⟨hrr, rfl⟩
                                  subst hrr
                                  have hrn := ih_rn_le s hns.2 a (by omega)
                                  refine s_i2lN C dX8_findMeans_103 (by omega) ?_
                                  refine s_ldc2 (v := lN 1000000) C (by decide +kernel) dX8_findMeans_104 ?_
                                  refine s_lmulN C dX8_findMeans_107 ?_
                                  refine s_aload_n C 1 dX8_findMeans_108 rfl ?_
                                  refine s_getR C 8 9 (hM.1 _ _ _ rfl) (by decide) rfl (by decide) rfl (fun _ h => List.mem_cons_of_mem _ (List.mem_append_right _ h)) (by decide) rfl (by decide +kernel) dX8_findMeans_109 ?_
                                  refine s_sipush (v := nI 225) C dX8_findMeans_112 (by decide) ?_
                                  refine s_iload_n C 3 dX8_findMeans_115 rfl ?_
                                  refine s_iconst (v := nI 1) C dX8_findMeans_116 (by decide) ?_
                                  refine s_isubN C dX8_findMeans_117 (by omega) ?_
                                  refine s_imulN C dX8_findMeans_118 ?_
                                  refine s_bipush (v := nI 25) C dX8_findMeans_119 (by decide) ?_
                                  refine s_iload C 5 dX8_findMeans_121 rfl ?_
                                  refine s_imulN C dX8_findMeans_123 ?_
                                  refine s_iaddN C dX8_findMeans_124 ?_
                                  refine s_iload C 6 dX8_findMeans_125 rfl ?_
                                  refine s_iload C 8 dX8_findMeans_127 rfl ?_
                                  refine s_callSi 2 C (c_X8_next _ w _ s a hns.2 (by omega)) gX8_findMeans_X8_next rfl (by decide +kernel) (by decide) (by decide) rfl rfl (Nat.le_of_ble_eq_true rfl) dX8_findMeans_129 ?_
                                  rintro rr S2 ⟨hrr, rfl⟩
                                  subst hrr
                                  have hnx := ih_nx_le s hns.2 a (by omega)
                                  refine s_iaddN C dX8_findMeans_132 ?_
                                  refine s_iaload C 6975 (((225 * (n - 1)) + (25 * ((p + 1) % ih_pl T))) + (ih_nx s a)) rfl rfl (by omega) (by decide) (by decide) rfl dX8_findMeans_133 ?_
                                  have hmb := ih_mean_le hpl0 hok (n - 1) ((p + 1) % ih_pl T) (ih_nx s a) (Nat.mod_lt _ hpl0)
                                  refine s_toe (b := nI (ih_mean (ih_cc T) (ih_pl T) (n - 1) ((p + 1) % ih_pl T) (ih_nx s a))) (ht _ _ _ (Nat.mod_lt _ hpl0) (by omega) (Or.inl (by omega))) ?_
                                  refine s_i2lN C dX8_findMeans_134 (by omega) ?_
                                  refine s_laddN C dX8_findMeans_135 ?_
                                  refine s_lmulN C dX8_findMeans_136 ?_
                                  refine s_laddN C dX8_findMeans_137 ?_
                                  refine s_tol (b := lN (ih_sum (ih_mf (ih_cc T) (ih_pl T) (n - 1) p s) (a + 1))) rfl ?_
                                  refine s_lstore (lv' := [(6, .long (lN (ih_sum (ih_mf (ih_cc T) (ih_pl T) (n - 1) p s) (a + 1)))), (9, .long (lN (ih_cc T p a))), (0, .ref (w.2.2 0)), (1, .int (nI st)), (2, .int (nI n)), (3, .int (nI p)), (4, .int (nI ((p + 1) % ih_pl T))), (5, .int (nI s)), (8, .int (nI a))]) C dX8_findMeans_138 (by decide) rfl ?_
                                  refine s_iinc (u := nI (a + 1)) (lv' := [(8, .int (nI (a + 1))), (6, .long (lN (ih_sum (ih_mf (ih_cc T) (ih_pl T) (n - 1) p s) (a + 1)))), (9, .long (lN (ih_cc T p a))), (0, .ref (w.2.2 0)), (1, .int (nI st)), (2, .int (nI n)), (3, .int (nI p)), (4, .int (nI ((p + 1) % ih_pl T))), (5, .int (nI s))]) C 8 dX8_findMeans_140 rfl (ih_incN (by decide)) (by decide) rfl ?_
                                  refine s_goto C 43 dX8_findMeans_143 (by decide) ?_
                                  refine s_perm [3, 4, 5, 6, 7, 8, 1, 0] rfl ?_
                                  exact ih_43 (a + 1) (by omega) _ ⟨hM, ht⟩
                                · rw [lg_cmp_eq, pk_lEQ (by omega) (by omega)] at h87
                                  refine s_lconst (v := lN 0) C dX8_findMeans_90 rfl ?_
                                  refine s_goto C 137 dX8_findMeans_91 (by decide) ?_
                                  refine s_laddN C dX8_findMeans_137 ?_
                                  refine s_tol (b := lN (ih_sum (ih_mf (ih_cc T) (ih_pl T) (n - 1) p s) (a + 1))) (congrArg lN (by show _ + 0 = ih_sum _ _ + ih_mf _ _ _ _ _ _; rw [ih_mf, h87, Nat.zero_mul])) ?_
                                  refine s_lstore (lv' := [(6, .long (lN (ih_sum (ih_mf (ih_cc T) (ih_pl T) (n - 1) p s) (a + 1)))), (9, .long (lN (ih_cc T p a))), (0, .ref (w.2.2 0)), (1, .int (nI st)), (2, .int (nI n)), (3, .int (nI p)), (4, .int (nI ((p + 1) % ih_pl T))), (5, .int (nI s)), (8, .int (nI a))]) C dX8_findMeans_138 (by decide) rfl ?_
                                  refine s_iinc (u := nI (a + 1)) (lv' := [(8, .int (nI (a + 1))), (6, .long (lN (ih_sum (ih_mf (ih_cc T) (ih_pl T) (n - 1) p s) (a + 1)))), (9, .long (lN (ih_cc T p a))), (0, .ref (w.2.2 0)), (1, .int (nI st)), (2, .int (nI n)), (3, .int (nI p)), (4, .int (nI ((p + 1) % ih_pl T))), (5, .int (nI s))]) C 8 dX8_findMeans_140 rfl (ih_incN (by decide)) (by decide) rfl ?_
                                  refine s_goto C 43 dX8_findMeans_143 (by decide) ?_
                                  refine s_perm [3, 4, 5, 6, 7, 8, 1, 0] rfl ?_
                                  exact ih_43 (a + 1) (by omega) _ ⟨hM, ht⟩
                      refine s_perm [2, 3, 4, 5, 6, 7, 1, 0] rfl ?_
                      exact loop_43 6 0 (by omega) _ ⟨hM, ht⟩
                    · refine s_iload C 0 dX8_findMeans_43 rfl ?_
                      refine s_bipush (v := nI 6) C dX8_findMeans_45 (by decide) ?_
                      refine s_icmp_geN 146 C dX8_findMeans_47 (by decide) (by omega) (by omega) (fun h47 => ?_) (fun h47 => ?_)
                      · exact absurd h47 (by decide)
                      · refine s_iload_n C 4 dX8_findMeans_50 rfl ?_
                        refine s_if_leN 146 C dX8_findMeans_51 (by decide) (by omega) (fun h51 => ?_) (fun h51 => ?_)
                        · refine s_aload_n C 2 dX8_findMeans_146 rfl ?_
                          refine s_getR C 8 9 (hM.1 _ _ _ rfl) (by decide) rfl (by decide) rfl (fun _ h => List.mem_cons_of_mem _ (List.mem_append_right _ h)) (by decide) rfl (by decide +kernel) dX8_findMeans_147 ?_
                          refine s_sipush (v := nI 225) C dX8_findMeans_150 (by decide) ?_
                          refine s_iload_n C 4 dX8_findMeans_153 rfl ?_
                          refine s_imulN C dX8_findMeans_154 ?_
                          refine s_bipush (v := nI 25) C dX8_findMeans_155 (by decide) ?_
                          refine s_iload_n C 5 dX8_findMeans_157 rfl ?_
                          refine s_imulN C dX8_findMeans_158 ?_
                          refine s_iaddN C dX8_findMeans_159 ?_
                          refine s_iload C 7 dX8_findMeans_160 rfl ?_
                          refine s_iaddN C dX8_findMeans_162 ?_
                          refine s_lload C 1 dX8_findMeans_163 rfl ?_
                          refine s_ldc2 (v := lN 1000) C (by decide +kernel) dX8_findMeans_165 ?_
                          refine s_ldivN C dX8_findMeans_168 (by omega) (by omega) (by omega) ?_
                          refine s_l2iN C dX8_findMeans_169 ?_
                          refine s_iastore C 6975 (((225 * n) + (25 * p)) + s) rfl rfl (by omega) (by decide) (by decide) rfl dX8_findMeans_170 ?_
                          refine s_iinc (u := nI (s + 1)) (lv' := [(5, .int (nI (s + 1))), (8, .int (nI 0)), (6, .long (lN (0))), (0, .ref (w.2.2 0)), (1, .int (nI st)), (2, .int (nI n)), (3, .int (nI p)), (4, .int (nI ((p + 1) % ih_pl T)))]) C 7 dX8_findMeans_171 rfl (ih_incN (by decide)) (by decide) rfl ?_
                          refine s_goto C 30 dX8_findMeans_174 (by decide) ?_
                          refine s_perm [3, 4, 5, 6, 7, 0] rfl ?_
                          exact ih_30 (s + 1) (by omega) _ ⟨ih_RM_h hM rfl, ih_MT_w ht (by first | (rw [ih_mean_p hns.1 hns.2]) | (rw [ih_mean_n hns]; rfl) | (rw [ih_mean_n hns])) hpl9 hpl (by omega)⟩
                        · refine s_iload C 7 dX8_findMeans_54 rfl ?_
                          refine s_bipush (v := nI 24) C dX8_findMeans_56 (by decide) ?_
                          refine s_icmp_geN 146 C dX8_findMeans_58 (by decide) (by omega) (by omega) (fun h58 => ?_) (fun h58 => ?_)
                          · refine s_aload_n C 2 dX8_findMeans_146 rfl ?_
                            refine s_getR C 8 9 (hM.1 _ _ _ rfl) (by decide) rfl (by decide) rfl (fun _ h => List.mem_cons_of_mem _ (List.mem_append_right _ h)) (by decide) rfl (by decide +kernel) dX8_findMeans_147 ?_
                            refine s_sipush (v := nI 225) C dX8_findMeans_150 (by decide) ?_
                            refine s_iload_n C 4 dX8_findMeans_153 rfl ?_
                            refine s_imulN C dX8_findMeans_154 ?_
                            refine s_bipush (v := nI 25) C dX8_findMeans_155 (by decide) ?_
                            refine s_iload_n C 5 dX8_findMeans_157 rfl ?_
                            refine s_imulN C dX8_findMeans_158 ?_
                            refine s_iaddN C dX8_findMeans_159 ?_
                            refine s_iload C 7 dX8_findMeans_160 rfl ?_
                            refine s_iaddN C dX8_findMeans_162 ?_
                            refine s_lload C 1 dX8_findMeans_163 rfl ?_
                            refine s_ldc2 (v := lN 1000) C (by decide +kernel) dX8_findMeans_165 ?_
                            refine s_ldivN C dX8_findMeans_168 (by omega) (by omega) (by omega) ?_
                            refine s_l2iN C dX8_findMeans_169 ?_
                            refine s_iastore C 6975 (((225 * n) + (25 * p)) + s) rfl rfl (by omega) (by decide) (by decide) rfl dX8_findMeans_170 ?_
                            refine s_iinc (u := nI (s + 1)) (lv' := [(5, .int (nI (s + 1))), (8, .int (nI 0)), (6, .long (lN (0))), (0, .ref (w.2.2 0)), (1, .int (nI st)), (2, .int (nI n)), (3, .int (nI p)), (4, .int (nI ((p + 1) % ih_pl T)))]) C 7 dX8_findMeans_171 rfl (ih_incN (by decide)) (by decide) rfl ?_
                            refine s_goto C 30 dX8_findMeans_174 (by decide) ?_
                            refine s_perm [3, 4, 5, 6, 7, 0] rfl ?_
                            exact ih_30 (s + 1) (by omega) _ ⟨ih_RM_h hM rfl, ih_MT_w ht (by first | (rw [ih_mean_p hns.1 hns.2]) | (rw [ih_mean_n hns]; rfl) | (rw [ih_mean_n hns])) hpl9 hpl (by omega)⟩
                          · exfalso; omega
              refine s_perm [2, 3, 4, 5, 1, 0] rfl ?_
              exact loop_30 25 0 (by omega) _ ⟨hM, ht⟩
        refine s_perm [1, 2, 3, 0] rfl ?_
        exact loop_9 (ih_pl T) 0 (by omega) _ ⟨hM, ht⟩
  refine s_perm [1, 2, 0] rfl ?_
  exact loop_2 (st + 1) 0 (by omega) _ ⟨hM, fun n p s _ _ hc => by omega⟩

set_option maxHeartbeats 4000000 in
set_option maxRecDepth 100000 in
theorem c_X8_isAt (l : Launch) (w : ih_Wd) (S : ih_Sg) {T : ih_TT} (hM : ih_RM S T) (hI : ih_Inv T) (s p n : Int32) : ih_Ci l yX8_isAt wsX8_isAt 1 w ih_shM [.ref (w.2.2 0), .int s, .int p, .int n] S (fun r S' => r = (if (0 ≤ s.toInt ∧ s.toInt ≤ 24) ∧ (0 ≤ p.toInt ∧ p.toInt < ih_pl T) ∧ (0 ≤ n.toInt ∧ n.toInt ≤ 30) then nI 1 else nI 0) ∧ S' = S) := by
  refine ih_bodyi (ret := some .boolean) rfl rfl (Nat.le_of_ble_eq_true rfl) ?_
  intro x A hA C
  have C : ih_Ok x w A cX8_isAt 4 RX8 wsX8_isAt (ih_rm 1) (some .boolean) := C
  show ih_Mw x w ih_shM A (ih_Qi x w ih_shM A _) 4 0 0 0 [(0, .ref (w.2.2 0)), (1, .int s), (2, .int p), (3, .int n)] [] S
  have hpl9 : ih_pl T ≤ 9 := hI.2.2.1.2.1
  have hct : ih_ct T ≤ 12 := hI.2.1.2.1
  refine s_iload_n C 1 dX8_isAt_0 rfl ?_
  refine s_i2l C dX8_isAt_1 ?_
  refine s_lconst (v := lN 0) C dX8_isAt_2 rfl ?_
  refine s_ldc2 (v := lN 24) C (by decide +kernel) dX8_isAt_3 ?_
  refine s_callSi 3 C (c_X8_in _ w _ _ _ _ _) gX8_isAt_X8_in rfl (by decide +kernel) (by decide) (by decide) rfl rfl (Nat.le_of_ble_eq_true rfl) dX8_isAt_6 ?_
  rintro rb6 S2 ⟨hrb6, rfl⟩
  rw [ih_wide, ih_tl (by decide), ih_tl (by decide)] at hrb6
  refine s_if_eq C 44 dX8_isAt_9 (by decide) (fun h9 => ?_) (fun h9 => ?_)
  · replace h9 := ih_b0 hrb6 h9
    refine s_iconst (v := nI 0) C dX8_isAt_44 (by decide) ?_
    exact s_zreturn C hA dX8_isAt_45 (by decide) ⟨by first | rw [if_pos (by omega)] | rw [if_neg (by omega)], rfl⟩
  · replace h9 := ih_b1 hrb6 h9
    refine s_iload_n C 2 dX8_isAt_12 rfl ?_
    refine s_i2l C dX8_isAt_13 ?_
    refine s_lconst (v := lN 0) C dX8_isAt_14 rfl ?_
    refine s_aload_n C 0 dX8_isAt_15 rfl ?_
    refine s_getI C 8 7 (by decide) rfl (by decide) rfl (fun _ h => List.mem_cons_of_mem _ (List.mem_append_right _ h)) (by decide) rfl (by decide +kernel) dX8_isAt_16 ?_
    refine s_toe (b := T 0 7) (hM.2 _ _ rfl) ?_
    refine s_toe (b := nI (ih_pl T)) hI.2.2.1.1 ?_
    refine s_iconst (v := nI 1) C dX8_isAt_19 (by decide) ?_
    refine s_isub C dX8_isAt_20  ?_
    refine s_i2l C dX8_isAt_21 ?_
    refine s_callSi 3 C (c_X8_in _ w _ _ _ _ _) gX8_isAt_X8_in rfl (by decide +kernel) (by decide) (by decide) rfl rfl (Nat.le_of_ble_eq_true rfl) dX8_isAt_22 ?_
    rintro rb22 S2 ⟨hrb22, rfl⟩
    rw [ih_wide, ih_wide, ih_tl (by decide), ih_m1 (by omega)] at hrb22
    refine s_if_eq C 44 dX8_isAt_25 (by decide) (fun h25 => ?_) (fun h25 => ?_)
    · replace h25 := ih_b0 hrb22 h25
      refine s_iconst (v := nI 0) C dX8_isAt_44 (by decide) ?_
      exact s_zreturn C hA dX8_isAt_45 (by decide) ⟨by first | rw [if_pos (by omega)] | rw [if_neg (by omega)], rfl⟩
    · replace h25 := ih_b1 hrb22 h25
      refine s_iload_n C 3 dX8_isAt_28 rfl ?_
      refine s_i2l C dX8_isAt_29 ?_
      refine s_lconst (v := lN 0) C dX8_isAt_30 rfl ?_
      refine s_ldc2 (v := lN 30) C (by decide +kernel) dX8_isAt_31 ?_
      refine s_callSi 3 C (c_X8_in _ w _ _ _ _ _) gX8_isAt_X8_in rfl (by decide +kernel) (by decide) (by decide) rfl rfl (Nat.le_of_ble_eq_true rfl) dX8_isAt_34 ?_
      rintro rb34 S2 ⟨hrb34, rfl⟩
      rw [ih_wide, ih_tl (by decide), ih_tl (by decide)] at hrb34
      refine s_if_eq C 44 dX8_isAt_37 (by decide) (fun h37 => ?_) (fun h37 => ?_)
      · replace h37 := ih_b0 hrb34 h37
        refine s_iconst (v := nI 0) C dX8_isAt_44 (by decide) ?_
        exact s_zreturn C hA dX8_isAt_45 (by decide) ⟨by first | rw [if_pos (by omega)] | rw [if_neg (by omega)], rfl⟩
      · replace h37 := ih_b1 hrb34 h37
        refine s_iconst (v := nI 1) C dX8_isAt_40 (by decide) ?_
        refine s_goto C 45 dX8_isAt_41 (by decide) ?_
        exact s_zreturn C hA dX8_isAt_45 (by decide) ⟨by first | rw [if_pos (by omega)] | rw [if_neg (by omega)], rfl⟩

set_option maxHeartbeats 4000000 in
set_option maxRecDepth 100000 in
theorem c_X8_mean (l : Launch) (w : ih_Wd) (S : ih_Sg) (T : ih_TT) (hM : ih_RM S T) (hI : ih_Inv T) (s p n : Int32) : ih_Ci l yX8_mean wsX8_mean 3 w ih_shM [.ref (w.2.2 0), .int s, .int p, .int n] S (fun r S' => r = sp_mean T s p n ∧ ih_RM S' T) := by
  refine ih_bodyi (ret := some .int) rfl rfl (Nat.le_of_ble_eq_true rfl) ?_
  intro x A hA C
  have C : ih_Ok x w A cX8_mean 4 RX8 wsX8_mean (ih_rm 3) (some .int) := C
  show ih_Mw x w ih_shM A (ih_Qi x w ih_shM A _) 4 0 0 0 [(0, .ref (w.2.2 0)), (1, .int s), (2, .int p), (3, .int n)] [] S
  have hpl9 : ih_pl T ≤ 9 := hI.2.2.1.2.1
  have hct : ih_ct T ≤ 12 := hI.2.1.2.1
  refine s_aload_n C 0 dX8_mean_0 rfl ?_
  refine s_iconst (v := nI 0) C dX8_mean_1 (by decide) ?_
  refine s_putI (ty := .int) C 8 0 tyX8 tyX8_ok nmX8 (by decide) rfl (by decide) rfl (fun _ h => List.mem_cons_of_mem _ (List.mem_append_right _ h)) (by decide) rfl (by decide +kernel) rfl (by decide +kernel) rfl rfl dX8_mean_2 ?_
  refine m_hide hM rfl (fun S hM => ?_)
  refine s_aload_n C 0 dX8_mean_5 rfl ?_
  refine s_iload_n C 1 dX8_mean_6 rfl ?_
  refine s_iload_n C 2 dX8_mean_7 rfl ?_
  refine s_iload_n C 3 dX8_mean_8 rfl ?_
  refine s_callVi 3 C (c_X8_isAt _ w _ hM hI _ _ _) gX8_mean_X8_isAt rfl (by decide +kernel) (by decide) (by decide) (by decide) rfl (by decide) rfl rfl rfl (Nat.le_of_ble_eq_true rfl) dX8_mean_9 ?_
  rintro ra9 S2 ⟨hra9, rfl⟩
  refine s_if_ne C 18 dX8_mean_12 (by decide) (fun h12 => ?_) (fun h12 => ?_)
  · replace h12 := ih_b1 hra9 h12
    obtain ⟨sn, hsn, rfl, hsnt⟩ := ih_nat (a := s) h12.1.1
    obtain ⟨pn, hpn, rfl, hpnt⟩ := ih_nat (a := p) h12.2.1.1
    obtain ⟨nn, hnn, rfl, hnnt⟩ := ih_nat (a := n) h12.2.2.1
    refine s_aload_n C 0 dX8_mean_18 rfl ?_
    refine s_iload_n C 3 dX8_mean_19 rfl ?_
    refine s_callVv 1 C (c_X8_findMeans _ w _ _ hM hI (by omega) nn (by omega)) gX8_mean_X8_findMeans rfl (by decide +kernel) (by decide) (by decide) (by decide) rfl (by decide) rfl rfl rfl (Nat.le_of_ble_eq_true rfl) dX8_mean_20 ?_
    rintro S ⟨hM, ht⟩
    refine s_aload_n C 0 dX8_mean_23 rfl ?_
    refine s_getR C 8 9 (hM.1 _ _ _ rfl) (by decide) rfl (by decide) rfl (fun _ h => List.mem_cons_of_mem _ (List.mem_append_right _ h)) (by decide) rfl (by decide +kernel) dX8_mean_24 ?_
    refine s_sipush (v := nI 225) C dX8_mean_27 (by decide) ?_
    refine s_iload_n C 3 dX8_mean_30 rfl ?_
    refine s_imulN C dX8_mean_31 ?_
    refine s_bipush (v := nI 25) C dX8_mean_32 (by decide) ?_
    refine s_iload_n C 2 dX8_mean_34 rfl ?_
    refine s_imulN C dX8_mean_35 ?_
    refine s_iaddN C dX8_mean_36 ?_
    refine s_iload_n C 1 dX8_mean_37 rfl ?_
    refine s_iaddN C dX8_mean_38 ?_
    refine s_iaload C 6975 (((225 * nn) + (25 * pn)) + sn) rfl rfl (by omega) (by decide) (by decide) rfl dX8_mean_39 ?_
    refine s_toe (b := nI (ih_mean (ih_cc T) (ih_pl T) (nn) (pn) (sn))) (ht (nn) (pn) (sn) (by omega) (by omega) (Or.inl (by omega))) ?_
    exact s_ireturn C hA dX8_mean_40 (by rw [sp_mean, if_pos (by omega), ih_n_nI hsn, ih_n_nI hpn, ih_n_nI hnn]; exact ⟨rfl, hM⟩)
  · replace h12 := ih_b0 hra9 h12
    refine s_ldc (v := (-1000001)) C (by decide +kernel) dX8_mean_15 ?_
    exact s_ireturn C hA dX8_mean_17 (by rw [sp_mean, if_neg (by omega)]; exact ⟨rfl, hM⟩)

set_option maxHeartbeats 4000000 in
set_option maxRecDepth 100000 in
theorem c_X8_worth (l : Launch) (w : ih_Wd) (S : ih_Sg) (T : ih_TT) (hM : ih_RM S T) (hI : ih_Inv T) (s a p n : Int32) : ih_Ci l yX8_worth wsX8_worth 3 w ih_shM [.ref (w.2.2 0), .int s, .int a, .int p, .int n] S (fun r S' => r = sp_worth T s a p n ∧ ih_RM S' T) := by
  refine ih_bodyi (ret := some .int) rfl rfl (Nat.le_of_ble_eq_true rfl) ?_
  intro x A hA C
  have C : ih_Ok x w A cX8_worth 5 RX8 wsX8_worth (ih_rm 3) (some .int) := C
  show ih_Mw x w ih_shM A (ih_Qi x w ih_shM A _) 5 0 0 0 [(0, .ref (w.2.2 0)), (1, .int s), (2, .int a), (3, .int p), (4, .int n)] [] S
  have hpl9 : ih_pl T ≤ 9 := hI.2.2.1.2.1
  have hct : ih_ct T ≤ 12 := hI.2.1.2.1
  refine s_aload_n C 0 dX8_worth_0 rfl ?_
  refine s_iconst (v := nI 0) C dX8_worth_1 (by decide) ?_
  refine s_putI (ty := .int) C 8 0 tyX8 tyX8_ok nmX8 (by decide) rfl (by decide) rfl (fun _ h => List.mem_cons_of_mem _ (List.mem_append_right _ h)) (by decide) rfl (by decide +kernel) rfl (by decide +kernel) rfl rfl dX8_worth_2 ?_
  refine m_hide hM rfl (fun S hM => ?_)
  refine s_aload_n C 0 dX8_worth_5 rfl ?_
  refine s_iload_n C 1 dX8_worth_6 rfl ?_
  refine s_iload_n C 3 dX8_worth_7 rfl ?_
  refine s_iload C 4 dX8_worth_8 rfl ?_
  refine s_callVi 3 C (c_X8_isAt _ w _ hM hI _ _ _) gX8_worth_X8_isAt rfl (by decide +kernel) (by decide) (by decide) (by decide) rfl (by decide) rfl rfl rfl (Nat.le_of_ble_eq_true rfl) dX8_worth_10 ?_
  rintro ra10 S2 ⟨hra10, rfl⟩
  refine s_if_eq C 39 dX8_worth_13 (by decide) (fun h13 => ?_) (fun h13 => ?_)
  · replace h13 := ih_b0 hra10 h13
    refine s_ldc (v := (-1000001)) C (by decide +kernel) dX8_worth_39 ?_
    exact s_ireturn C hA dX8_worth_41 (by rw [sp_worth, if_neg (by omega)]; exact ⟨rfl, hM⟩)
  · replace h13 := ih_b1 hra10 h13
    obtain ⟨sn, hsn, rfl, hsnt⟩ := ih_nat (a := s) h13.1.1
    obtain ⟨pn, hpn, rfl, hpnt⟩ := ih_nat (a := p) h13.2.1.1
    obtain ⟨nn, hnn, rfl, hnnt⟩ := ih_nat (a := n) h13.2.2.1
    refine s_iload_n C 1 dX8_worth_16 rfl ?_
    refine s_bipush (v := nI 24) C dX8_worth_17 (by decide) ?_
    refine s_icmp_eqN 39 C dX8_worth_19 (by decide) (by omega) (by omega) (fun h19 => ?_) (fun h19 => ?_)
    · refine s_ldc (v := (-1000001)) C (by decide +kernel) dX8_worth_39 ?_
      exact s_ireturn C hA dX8_worth_41 (by rw [sp_worth, if_neg (by omega)]; exact ⟨rfl, hM⟩)
    · refine s_iload C 4 dX8_worth_22 rfl ?_
      refine s_if_eqN 39 C dX8_worth_24 (by decide) (by omega) (fun h24 => ?_) (fun h24 => ?_)
      · refine s_ldc (v := (-1000001)) C (by decide +kernel) dX8_worth_39 ?_
        exact s_ireturn C hA dX8_worth_41 (by rw [sp_worth, if_neg (by omega)]; exact ⟨rfl, hM⟩)
      · refine s_iload_n C 2 dX8_worth_27 rfl ?_
        refine s_i2l C dX8_worth_28 ?_
        refine s_lconst (v := lN 0) C dX8_worth_29 rfl ?_
        refine s_ldc2 (v := lN 6) C (by decide +kernel) dX8_worth_30 ?_
        refine s_callSi 3 C (c_X8_in _ w _ _ _ _ _) gX8_worth_X8_in rfl (by decide +kernel) (by decide) (by decide) rfl rfl (Nat.le_of_ble_eq_true rfl) dX8_worth_33 ?_
        rintro rb33 S2 ⟨hrb33, rfl⟩
        rw [ih_wide, ih_tl (by decide), ih_tl (by decide)] at hrb33
        refine s_if_ne C 42 dX8_worth_36 (by decide) (fun h36 => ?_) (fun h36 => ?_)
        · replace h36 := ih_b1 hrb33 h36
          obtain ⟨an, han, rfl, hant⟩ := ih_nat (a := a) h36.1
          have hmod := Nat.mod_lt (pn + 1) (show 0 < ih_pl T by omega)
          refine s_aload_n C 0 dX8_worth_42 rfl ?_
          refine s_iload C 4 dX8_worth_43 rfl ?_
          refine s_callVv 1 C (c_X8_findMeans _ w _ _ hM hI (by omega) nn (by omega)) gX8_worth_X8_findMeans rfl (by decide +kernel) (by decide) (by decide) (by decide) rfl (by decide) rfl rfl rfl (Nat.le_of_ble_eq_true rfl) dX8_worth_45 ?_
          rintro S ⟨hM, ht⟩
          refine s_iload_n C 1 dX8_worth_48 rfl ?_
          refine s_iload_n C 2 dX8_worth_49 rfl ?_
          refine s_callSi 2 C (c_X8_runs _ w _ sn an (by omega) (by omega)) gX8_worth_X8_runs rfl (by decide +kernel) (by decide) (by decide) rfl rfl (Nat.le_of_ble_eq_true rfl) dX8_worth_50 ?_
          rintro rr S2 ⟨hrr, rfl⟩
          subst hrr
          have hrn := ih_rn_le sn (by omega) an (by omega)
          refine s_ldc (v := nI 1000000) C (by decide +kernel) dX8_worth_53 ?_
          refine s_imulN C dX8_worth_55 ?_
          refine s_aload_n C 0 dX8_worth_56 rfl ?_
          refine s_getR C 8 9 (hM.1 _ _ _ rfl) (by decide) rfl (by decide) rfl (fun _ h => List.mem_cons_of_mem _ (List.mem_append_right _ h)) (by decide) rfl (by decide +kernel) dX8_worth_57 ?_
          refine s_sipush (v := nI 225) C dX8_worth_60 (by decide) ?_
          refine s_iload C 4 dX8_worth_63 rfl ?_
          refine s_iconst (v := nI 1) C dX8_worth_65 (by decide) ?_
          refine s_isubN C dX8_worth_66 (by omega) ?_
          refine s_imulN C dX8_worth_67 ?_
          refine s_bipush (v := nI 25) C dX8_worth_68 (by decide) ?_
          refine s_iload_n C 3 dX8_worth_70 rfl ?_
          refine s_iconst (v := nI 1) C dX8_worth_71 (by decide) ?_
          refine s_iaddN C dX8_worth_72 ?_
          refine s_aload_n C 0 dX8_worth_73 rfl ?_
          refine s_getI C 8 7 (by decide) rfl (by decide) rfl (fun _ h => List.mem_cons_of_mem _ (List.mem_append_right _ h)) (by decide) rfl (by decide +kernel) dX8_worth_74 ?_
          refine s_toe (b := T 0 7) (hM.2 _ _ rfl) ?_
          refine s_toe (b := nI (ih_pl T)) hI.2.2.1.1 ?_
          refine s_iremN C dX8_worth_77 (by omega) (by omega) (by omega) ?_
          refine s_imulN C dX8_worth_78 ?_
          refine s_iaddN C dX8_worth_79 ?_
          refine s_iload_n C 1 dX8_worth_80 rfl ?_
          refine s_iload_n C 2 dX8_worth_81 rfl ?_
          refine s_callSi 2 C (c_X8_next _ w _ sn an (by omega) (by omega)) gX8_worth_X8_next rfl (by decide +kernel) (by decide) (by decide) rfl rfl (Nat.le_of_ble_eq_true rfl) dX8_worth_82 ?_
          rintro rr S2 ⟨hrr, rfl⟩
          subst hrr
          have hnx := ih_nx_le sn (by omega) an (by omega)
          refine s_iaddN C dX8_worth_85 ?_
          refine s_iaload C 6975 (((225 * (nn - 1)) + (25 * ((pn + 1) % (ih_pl T)))) + (ih_nx sn an)) rfl rfl (by omega) (by decide) (by decide) rfl dX8_worth_86 ?_
          refine s_toe (b := nI (ih_mean (ih_cc T) (ih_pl T) (nn - 1) ((pn + 1) % ih_pl T) (ih_nx sn an))) (ht (nn - 1) ((pn + 1) % ih_pl T) (ih_nx sn an) (by omega) (by omega) (Or.inl (by omega))) ?_
          refine s_iaddN C dX8_worth_87 ?_
          refine s_aload_n C 0 dX8_worth_88 rfl ?_
          refine s_getR C 8 9 (hM.1 _ _ _ rfl) (by decide) rfl (by decide) rfl (fun _ h => List.mem_cons_of_mem _ (List.mem_append_right _ h)) (by decide) rfl (by decide +kernel) dX8_worth_89 ?_
          refine s_sipush (v := nI 225) C dX8_worth_92 (by decide) ?_
          refine s_iload C 4 dX8_worth_95 rfl ?_
          refine s_imulN C dX8_worth_97 ?_
          refine s_bipush (v := nI 25) C dX8_worth_98 (by decide) ?_
          refine s_iload_n C 3 dX8_worth_100 rfl ?_
          refine s_imulN C dX8_worth_101 ?_
          refine s_iaddN C dX8_worth_102 ?_
          refine s_iload_n C 1 dX8_worth_103 rfl ?_
          refine s_iaddN C dX8_worth_104 ?_
          refine s_iaload C 6975 (((225 * nn) + (25 * pn)) + sn) rfl rfl (by omega) (by decide) (by decide) rfl dX8_worth_105 ?_
          refine s_toe (b := nI (ih_mean (ih_cc T) (ih_pl T) (nn) (pn) (sn))) (ht (nn) (pn) (sn) (by omega) (by omega) (Or.inl (by omega))) ?_
          refine s_isub C dX8_worth_106  ?_
          exact s_ireturn C hA dX8_worth_107 (by rw [sp_worth, if_pos (by omega), ih_n_nI hsn, ih_n_nI hpn, ih_n_nI hnn, ih_n_nI han]; exact ⟨rfl, hM⟩)
        · replace h36 := ih_b0 hrb33 h36
          refine s_ldc (v := (-1000001)) C (by decide +kernel) dX8_worth_39 ?_
          exact s_ireturn C hA dX8_worth_41 (by rw [sp_worth, if_neg (by omega)]; exact ⟨rfl, hM⟩)

set_option maxHeartbeats 4000000 in
set_option maxRecDepth 100000 in
theorem c_X8_rateNow (l : Launch) (w : ih_Wd) (S : ih_Sg) (T : ih_TT) (hM : ih_RM S T) (hI : ih_Inv T) (hpl0 : 0 < ih_pl T) : ih_Ci l yX8_rateNow wsX8_rateNow 3 w ih_shM [.ref (w.2.2 0)] S (fun r S' => r = nI (ih_rt T) ∧ ih_RM S' T) := by
  refine ih_bodyi (ret := some .int) rfl rfl (Nat.le_of_ble_eq_true rfl) ?_
  intro x A hA C
  have C : ih_Ok x w A cX8_rateNow 1 RX8 wsX8_rateNow (ih_rm 3) (some .int) := C
  show ih_Mw x w ih_shM A (ih_Qi x w ih_shM A _) 1 0 0 0 [(0, .ref (w.2.2 0))] [] S
  have hpl9 : ih_pl T ≤ 9 := hI.2.2.1.2.1
  have hct : ih_ct T ≤ 12 := hI.2.1.2.1
  refine s_aload_n C 0 dX8_rateNow_0 rfl ?_
  refine s_bipush (v := nI 30) C dX8_rateNow_1 (by decide) ?_
  refine s_callVv 1 C (c_X8_findMeans _ w _ _ hM hI hpl0 30 (by omega)) gX8_rateNow_X8_findMeans rfl (by decide +kernel) (by decide) (by decide) (by decide) rfl (by decide) rfl rfl rfl (Nat.le_of_ble_eq_true rfl) dX8_rateNow_3 ?_
  rintro S ⟨hM, ht⟩
  refine s_aload_n C 0 dX8_rateNow_6 rfl ?_
  refine s_getR C 8 9 (hM.1 _ _ _ rfl) (by decide) rfl (by decide) rfl (fun _ h => List.mem_cons_of_mem _ (List.mem_append_right _ h)) (by decide) rfl (by decide +kernel) dX8_rateNow_7 ?_
  refine s_sipush (v := nI 6750) C dX8_rateNow_10 (by decide) ?_
  refine s_iaload C 6975 (6750) rfl rfl (by decide) (by decide) (by decide) rfl dX8_rateNow_13 ?_
  refine s_toe (b := nI (ih_mean (ih_cc T) (ih_pl T) (30) (0) (0))) (ht (30) (0) (0) (by omega) (by omega) (Or.inl (by omega))) ?_
  refine s_aload_n C 0 dX8_rateNow_14 rfl ?_
  refine s_getR C 8 9 (hM.1 _ _ _ rfl) (by decide) rfl (by decide) rfl (fun _ h => List.mem_cons_of_mem _ (List.mem_append_right _ h)) (by decide) rfl (by decide +kernel) dX8_rateNow_15 ?_
  refine s_sipush (v := nI 6750) C dX8_rateNow_18 (by decide) ?_
  refine s_bipush (v := nI 25) C dX8_rateNow_21 (by decide) ?_
  refine s_aload_n C 0 dX8_rateNow_23 rfl ?_
  refine s_getI C 8 7 (by decide) rfl (by decide) rfl (fun _ h => List.mem_cons_of_mem _ (List.mem_append_right _ h)) (by decide) rfl (by decide +kernel) dX8_rateNow_24 ?_
  refine s_toe (b := T 0 7) (hM.2 _ _ rfl) ?_
  refine s_toe (b := nI (ih_pl T)) hI.2.2.1.1 ?_
  refine s_iconst (v := nI 2) C dX8_rateNow_27 (by decide) ?_
  refine s_idivN C dX8_rateNow_28 (by omega) (by omega) (by omega) ?_
  refine s_imulN C dX8_rateNow_29 ?_
  refine s_iaddN C dX8_rateNow_30 ?_
  refine s_iaload C 6975 (6750 + (25 * ((ih_pl T) / 2))) rfl rfl (by omega) (by decide) (by decide) rfl dX8_rateNow_31 ?_
  refine s_toe (b := nI (ih_mean (ih_cc T) (ih_pl T) (30) (ih_pl T / 2) (0))) (ht (30) (ih_pl T / 2) (0) (by omega) (by omega) (Or.inl (by omega))) ?_
  refine s_iaddN C dX8_rateNow_32 ?_
  exact s_ireturn C hA dX8_rateNow_33 ⟨rfl, hM⟩

set_option maxHeartbeats 4000000 in
set_option maxRecDepth 100000 in
theorem c_X8_rate (l : Launch) (w : ih_Wd) (S : ih_Sg) (T : ih_TT) (hM : ih_RM S T) (hI : ih_Inv T) : ih_Ci l yX8_rate wsX8_rate 4 w ih_shM [.ref (w.2.2 0)] S (fun r S' => r = sp_rate T ∧ ih_RM S' T) := by
  refine ih_bodyi (ret := some .int) rfl rfl (Nat.le_of_ble_eq_true rfl) ?_
  intro x A hA C
  have C : ih_Ok x w A cX8_rate 1 RX8 wsX8_rate (ih_rm 4) (some .int) := C
  show ih_Mw x w ih_shM A (ih_Qi x w ih_shM A _) 1 0 0 0 [(0, .ref (w.2.2 0))] [] S
  have hpl9 : ih_pl T ≤ 9 := hI.2.2.1.2.1
  have hct : ih_ct T ≤ 12 := hI.2.1.2.1
  refine s_aload_n C 0 dX8_rate_0 rfl ?_
  refine s_iconst (v := nI 0) C dX8_rate_1 (by decide) ?_
  refine s_putI (ty := .int) C 8 0 tyX8 tyX8_ok nmX8 (by decide) rfl (by decide) rfl (fun _ h => List.mem_cons_of_mem _ (List.mem_append_right _ h)) (by decide) rfl (by decide +kernel) rfl (by decide +kernel) rfl rfl dX8_rate_2 ?_
  refine m_hide hM rfl (fun S hM => ?_)
  refine s_aload_n C 0 dX8_rate_5 rfl ?_
  refine s_getI C 8 7 (by decide) rfl (by decide) rfl (fun _ h => List.mem_cons_of_mem _ (List.mem_append_right _ h)) (by decide) rfl (by decide +kernel) dX8_rate_6 ?_
  refine s_toe (b := T 0 7) (hM.2 _ _ rfl) ?_
  refine s_toe (b := nI (ih_pl T)) hI.2.2.1.1 ?_
  refine s_if_neN 17 C dX8_rate_9 (by decide) (by omega) (fun h9 => ?_) (fun h9 => ?_)
  · refine s_aload_n C 0 dX8_rate_17 rfl ?_
    refine s_callVi 0 C (c_X8_rateNow _ w _ _ hM hI (by omega)) gX8_rate_X8_rateNow rfl (by decide +kernel) (by decide) (by decide) (by decide) rfl (by decide) rfl rfl rfl (Nat.le_of_ble_eq_true rfl) dX8_rate_18 ?_
    rintro rr S ⟨hrr, hM⟩
    exact s_ireturn C hA dX8_rate_21 (by rw [sp_rate, if_neg (by omega)]; exact ⟨hrr, hM⟩)
  · refine s_ldc (v := (-1000002)) C (by decide +kernel) dX8_rate_12 ?_
    refine s_goto C 21 dX8_rate_14 (by decide) ?_
    exact s_ireturn C hA dX8_rate_21 (by rw [sp_rate, if_pos (by omega)]; exact ⟨rfl, hM⟩)

