theorem ih_RX_l {S V : ih_Sg} {T : ih_TT} (h : ih_RX S T) (hc : ∀ k, k ≠ 51 → k ≠ 52 → V.1 k = S.1 k) (hp : ih_PX V) (hq : rx_p V.2.2) : ih_RX V T :=
  ih_RX_oo h hp hq (fun k h1 h2 => hc k (by omega) (by omega)) (by rw [hc 53 (by decide) (by decide)]) (by unfold rx_o; rw [hc 46 (by decide) (by decide), hc 47 (by decide) (by decide)]; exact h.2.2.2.2.2.2.1) (fun _ _ _ _ => rfl) rfl rfl rfl
/-- a row of likelies as it begins -/
def ih_LB (Sb S : ih_Sg) (k n : Nat) : Prop := S.2 = Sb.2 ∧ (∀ a, a ≠ k → S.1 a = Sb.1 a) ∧ ∀ s r, s < 25 → r < 10 → S.1 k (s * 10 + r) = nI (if r = 0 ∧ s < n then 1000000 else 0)
theorem ih_LB_0 {S : ih_Sg} {k : Nat} : ih_LB S (ih_fa S k 250 (nI 0)) k 0 := by
  refine ⟨rfl, fun a ha => ?_, fun s r hs hr => ?_⟩
  · funext j
    exact if_neg (fun q => ha q.1)
  · rw [if_neg (by omega)]
    exact if_pos ⟨rfl, by omega⟩
theorem ih_LB_s {Sb S : ih_Sg} {k n : Nat} (h : ih_LB Sb S k n) : ih_LB Sb (ih_sI S k (n * 10) (nI 1000000)) k (n + 1) := by
  refine ⟨h.1, fun a ha => (ih_sI_row ha).trans (h.2.1 a ha), fun s r hs hr => ?_⟩
  show ih_u2 S.1 k (n * 10) (nI 1000000) k (s * 10 + r) = _
  by_cases e : s = n ∧ r = 0
  · rw [e.1, e.2, Nat.add_zero, ih_u2_s, if_pos (by omega)]
  · rw [ih_u2_j (by omega), h.2.2 s r hs hr]
    by_cases e2 : r = 0 ∧ s < n
    · rw [if_pos e2, if_pos (by omega)]
    · rw [if_neg e2, if_neg (by omega)]
def ih_l1f (c : Nat → Nat) (g : Nat → Nat → Nat) (fw s r a : Nat) : Nat := c a * (if r < ih_rn s a then fw else g (ih_nx s a) (r - ih_rn s a))
theorem ih_l1f_le {c : Nat → Nat} {g : Nat → Nat → Nat} {fw s r m : Nat} (hs : s < 24) (hr : r ≤ m) (hc : ∀ a, a < 6 → c a ≤ 1000) (hfw : fw ≤ 1000000) (hg : ∀ s, s < 25 → ∀ y, y ≤ m → g s y ≤ 1000000) : ih_sum (ih_l1f c g fw s r) 6 ≤ 6000000000 := by
  have h := ih_sum_bd (f := ih_l1f c g fw s r) (B := 1000 * 1000000) (n := 6) (fun a ha => by
    refine Nat.mul_le_mul (hc a ha) ?_
    split
    · exact hfw
    · exact hg _ (ih_nx_le s hs a (by omega)) _ (by omega))
  omega
/-- likelies as they are filled -/
def ih_FJ (Sb S : ih_Sg) (kl : Nat) (c : Nat → Nat) (g : Nat → Nat → Nat) (fw m s r : Nat) : Prop := S.2 = Sb.2 ∧ (∀ a, a ≠ kl → S.1 a = Sb.1 a) ∧ (∀ z y, z < 24 → y ≤ m → (z < s ∨ (z = s ∧ y < r)) → S.1 kl (z * 10 + y) = nI (ih_sum (ih_l1f c g fw z y) 6 / 1000)) ∧ ∀ y, y < 10 → S.1 kl (240 + y) = Sb.1 kl (240 + y)
theorem ih_FJ_w {Sb S : ih_Sg} {kl : Nat} {c : Nat → Nat} {g : Nat → Nat → Nat} {fw m s r : Nat} (h : ih_FJ Sb S kl c g fw m s r) (hs : s < 24) (hr : r ≤ m) (hm : m < 10) : ih_FJ Sb (ih_sI S kl (s * 10 + r) (nI (ih_sum (ih_l1f c g fw s r) 6 / 1000))) kl c g fw m s (r + 1) := by
  obtain ⟨h1, h2, h3, h4⟩ := h
  refine ⟨h1, fun a ha => (ih_sI_row ha).trans (h2 a ha), fun z y hz hy hc => ?_, fun y hy => ?_⟩
  · show ih_u2 S.1 kl (s * 10 + r) _ kl (z * 10 + y) = _
    by_cases e : z = s ∧ y = r
    · rw [e.1, e.2, ih_u2_s]
    · rw [ih_u2_j (by omega)]; exact h3 z y hz hy (by omega)
  · show ih_u2 S.1 kl (s * 10 + r) _ kl (240 + y) = _
    rw [ih_u2_j (by omega)]; exact h4 y hy
theorem ih_FJ_s {Sb S : ih_Sg} {kl : Nat} {c : Nat → Nat} {g : Nat → Nat → Nat} {fw m s : Nat} (h : ih_FJ Sb S kl c g fw m s (m + 1)) : ih_FJ Sb S kl c g fw m (s + 1) 0 := ⟨h.1, h.2.1, fun z y hz hy hc => h.2.2.1 z y hz hy (by omega), h.2.2.2⟩
set_option maxHeartbeats 4000000 in
set_option maxRecDepth 100000 in
theorem c_X2_beginLikelies (l : Launch) (w : ih_Wd) (Sb : ih_Sg) (k : Nat) (hk : k < 62) (hkd : ih_shX.1 k = 9) (hl : ih_shX.2.1 k = 250) : ih_Cv l yX2_beginLikelies wsX2_beginLikelies 1 w ih_shX [.ref (w.2.2 k)] Sb (fun S' => ih_LB Sb S' k 25) := by
  refine ih_bodyv (ret := none) rfl rfl (Nat.le_of_ble_eq_true rfl) ?_
  intro x A hA C
  have C : ih_Ok x w A cX2_beginLikelies 2 RX2 wsX2_beginLikelies (ih_rm 1) (none) := C
  show ih_Mw x w ih_shX A (ih_Qv x w ih_shX A _) 2 0 0 0 [(0, .ref (w.2.2 k))] [] Sb
  obtain ⟨Q, hQ⟩ : ∃ Q, Q = ih_Qv x w ih_shX A (fun S' => ih_LB Sb S' k 25) := ⟨_, rfl⟩
  rw [show ih_Qv x w ih_shX A _ = Q from hQ.symm]
  refine s_aload_n C 0 dX2_beginLikelies_0 rfl ?_
  refine s_iconst (v := nI 0) C dX2_beginLikelies_1 (by decide) ?_
  refine s_callSv 2 C (c_fillI _ w _ k 250 hk hkd hl (by decide) _) gX2_beginLikelies_J7_fill_53178 rfl (by decide +kernel) (by decide) (by decide) rfl rfl (Nat.le_of_ble_eq_true rfl) dX2_beginLikelies_2 ?_
  rintro S6 hS6
  refine s_iconst (v := nI 0) C dX2_beginLikelies_5 (by decide) ?_
  refine s_istore_n (lv' := [(1, .int (nI 0)), (0, .ref (w.2.2 k))]) C dX2_beginLikelies_6 rfl (by decide) rfl ?_
  have hx_7 : ∀ S, ih_LB Sb S k (25) → ih_Mw x w ih_shX A Q 2 0 0 27 [(0, .ref (w.2.2 k))] [] S := by
    intro S hE
    rw [hQ]
    exact s_vreturn C hA dX2_beginLikelies_27 hE
  have loop_7 : ∀ (fu s : Nat), s + fu = 25 → ∀ S, ih_LB Sb S k (s) → ih_Mw x w ih_shX A Q 2 0 0 7 [(0, .ref (w.2.2 k)), (1, .int (nI s))] [] S := by
    intro fu
    induction fu with
    | zero =>
      intro s hse S hE
      have hs0 : s = 25 := by omega
      refine s_iload_n C 1 dX2_beginLikelies_7 rfl ?_
      refine s_bipush (v := nI 25) C dX2_beginLikelies_8 (by decide) ?_
      refine s_icmp_geN 27 C dX2_beginLikelies_10 (by decide) (by omega) (by omega) (fun h10 => ?_) (fun h10 => ?_)
      · refine s_perm [0] rfl ?_
        subst hs0
        exact hx_7 _ hE
      · exfalso; omega
    | succ fu ih_7 =>
      intro s hse S hE
      have hsl : s < 25 := by omega
      refine s_iload_n C 1 dX2_beginLikelies_7 rfl ?_
      refine s_bipush (v := nI 25) C dX2_beginLikelies_8 (by decide) ?_
      refine s_icmp_geN 27 C dX2_beginLikelies_10 (by decide) (by omega) (by omega) (fun h10 => ?_) (fun h10 => ?_)
      · exfalso; omega
      · refine s_aload_n C 0 dX2_beginLikelies_13 rfl ?_
        refine s_iload_n C 1 dX2_beginLikelies_14 rfl ?_
        refine s_bipush (v := nI 10) C dX2_beginLikelies_15 (by decide) ?_
        refine s_imulN C dX2_beginLikelies_17 ?_
        refine s_ldc (v := nI 1000000) C (by decide +kernel) dX2_beginLikelies_18 ?_
        refine s_iastore C 250 (s * 10) rfl hl (by omega) (by decide) hk hkd dX2_beginLikelies_20 ?_
        refine s_iinc (u := nI (s + 1)) (lv' := [(1, .int (nI (s + 1))), (0, .ref (w.2.2 k))]) C 1 dX2_beginLikelies_21 rfl (ih_incN (by decide)) (by decide) rfl ?_
        refine s_goto C 7 dX2_beginLikelies_24 (by decide) ?_
        refine s_perm [1, 0] rfl ?_
        exact ih_7 (s + 1) (by omega) _ (ih_LB_s hE)
  refine s_perm [1, 0] rfl ?_
  rw [hS6]
  exact loop_7 25 0 (by omega) _ ih_LB_0

set_option maxHeartbeats 4000000 in
set_option maxRecDepth 100000 in
theorem c_X2_fillLikeliesOf (l : Launch) (w : ih_Wd) (Sb : ih_Sg) (hp : ih_PX Sb) (hb : rx_b Sb.1) (kl kb : Nat) (hmb : (kl = 51 ∧ kb = 52) ∨ (kl = 52 ∧ kb = 51)) (hl7 : Sb.2.2 46 7 = some kl) (hl8 : Sb.2.2 46 8 = some kb) (k : Nat) (hk : k < 12) (c : Nat → Nat) (g : Nat → Nat → Nat) (m fw : Nat) (hm : m < 10) (hfw : fw ≤ 1000000) (hc : ∀ a, a < 6 → Sb.1 (20 + 2 * k) a = nI (c a) ∧ c a ≤ 1000) (hg : ∀ s, s < 25 → ∀ y, y ≤ m → Sb.1 kb (s * 10 + y) = nI (g s y) ∧ g s y ≤ 1000000) : ih_Cv l yX2_fillLikeliesOf wsX2_fillLikeliesOf 1 w ih_shX [.ref (w.2.2 46), .ref (w.2.2 (20 + 2 * k)), .int (nI m), .int (nI fw)] Sb (fun S' => ih_FJ Sb S' kl c g fw m 24 0) := by
  refine ih_bodyv (ret := none) rfl rfl (Nat.le_of_ble_eq_true rfl) ?_
  intro x A hA C
  have C : ih_Ok x w A cX2_fillLikeliesOf 11 RX2 wsX2_fillLikeliesOf (ih_rm 1) (none) := C
  show ih_Mw x w ih_shX A (ih_Qv x w ih_shX A _) 11 0 0 0 [(0, .ref (w.2.2 46)), (1, .ref (w.2.2 (20 + 2 * k))), (2, .int (nI m)), (3, .int (nI fw))] [] Sb
  obtain ⟨Q, hQ⟩ : ∃ Q, Q = ih_Qv x w ih_shX A (fun S' => ih_FJ Sb S' kl c g fw m 24 0) := ⟨_, rfl⟩
  rw [show ih_Qv x w ih_shX A _ = Q from hQ.symm]
  have hkld : ih_shX.1 kl = 9 := by rcases hmb with ⟨rfl, rfl⟩ | ⟨rfl, rfl⟩ <;> rfl
  have hkll : ih_shX.2.1 kl = 250 := by rcases hmb with ⟨rfl, rfl⟩ | ⟨rfl, rfl⟩ <;> rfl
  have hkbd : ih_shX.1 kb = 9 := by rcases hmb with ⟨rfl, rfl⟩ | ⟨rfl, rfl⟩ <;> rfl
  have hkbl : ih_shX.2.1 kb = 250 := by rcases hmb with ⟨rfl, rfl⟩ | ⟨rfl, rfl⟩ <;> rfl
  have hne : kb ≠ kl := by omega
  refine s_iconst (v := nI 0) C dX2_fillLikeliesOf_0 (by decide) ?_
  refine s_istore (lv' := [(4, .int (nI 0)), (0, .ref (w.2.2 46)), (1, .ref (w.2.2 (20 + 2 * k))), (2, .int (nI m)), (3, .int (nI fw))]) C dX2_fillLikeliesOf_1 (by decide) rfl ?_
  have hx_3 : ∀ S, ih_FJ Sb S kl c g fw m (24) 0 → ih_Mw x w ih_shX A Q 11 0 0 132 [(0, .ref (w.2.2 46))] [] S := by
    intro S hE
    rw [hQ]
    exact s_vreturn C hA dX2_fillLikeliesOf_132 hE
  have loop_3 : ∀ (fu ss : Nat), ss + fu = 24 → ∀ S, ih_FJ Sb S kl c g fw m (ss) 0 → ih_Mw x w ih_shX A Q 11 0 0 3 [(0, .ref (w.2.2 46)), (1, .ref (w.2.2 (20 + 2 * k))), (2, .int (nI m)), (3, .int (nI fw)), (4, .int (nI ss))] [] S := by
    intro fu
    induction fu with
    | zero =>
      intro ss hsse S hE
      have hss0 : ss = 24 := by omega
      refine s_iload C 4 dX2_fillLikeliesOf_3 rfl ?_
      refine s_bipush (v := nI 24) C dX2_fillLikeliesOf_5 (by decide) ?_
      refine s_icmp_geN 132 C dX2_fillLikeliesOf_7 (by decide) (by omega) (by omega) (fun h7 => ?_) (fun h7 => ?_)
      · refine s_perm [0] rfl ?_
        subst hss0
        exact hx_3 _ hE
      · exfalso; omega
    | succ fu ih_3 =>
      intro ss hsse S hE
      have hssl : ss < 24 := by omega
      have hs24 : ss < 24 := by omega
      refine s_iload C 4 dX2_fillLikeliesOf_3 rfl ?_
      refine s_bipush (v := nI 24) C dX2_fillLikeliesOf_5 (by decide) ?_
      refine s_icmp_geN 132 C dX2_fillLikeliesOf_7 (by decide) (by omega) (by omega) (fun h7 => ?_) (fun h7 => ?_)
      · exfalso; omega
      · refine s_iconst (v := nI 0) C dX2_fillLikeliesOf_10 (by decide) ?_
        refine s_istore (lv' := [(5, .int (nI 0)), (0, .ref (w.2.2 46)), (1, .ref (w.2.2 (20 + 2 * k))), (2, .int (nI m)), (3, .int (nI fw)), (4, .int (nI ss))]) C dX2_fillLikeliesOf_11 (by decide) rfl ?_
        have hx_13 : ∀ S, ih_FJ Sb S kl c g fw m ss (m + 1) → ih_Mw x w ih_shX A Q 11 0 0 126 [(0, .ref (w.2.2 46)), (1, .ref (w.2.2 (20 + 2 * k))), (2, .int (nI m)), (3, .int (nI fw)), (4, .int (nI ss))] [] S := by
          intro S hE
          refine s_iinc (u := nI (ss + 1)) (lv' := [(4, .int (nI (ss + 1))), (0, .ref (w.2.2 46)), (1, .ref (w.2.2 (20 + 2 * k))), (2, .int (nI m)), (3, .int (nI fw))]) C 4 dX2_fillLikeliesOf_126 rfl (ih_incN (by decide)) (by decide) rfl ?_
          refine s_goto C 3 dX2_fillLikeliesOf_129 (by decide) ?_
          refine s_perm [1, 2, 3, 4, 0] rfl ?_
          exact ih_3 (ss + 1) (by omega) _ (ih_FJ_s hE)
        have loop_13 : ∀ (fu oo : Nat), oo + fu = m + 1 → ∀ S, ih_FJ Sb S kl c g fw m ss (oo) → ih_Mw x w ih_shX A Q 11 0 0 13 [(0, .ref (w.2.2 46)), (1, .ref (w.2.2 (20 + 2 * k))), (2, .int (nI m)), (3, .int (nI fw)), (4, .int (nI ss)), (5, .int (nI oo))] [] S := by
          intro fu
          induction fu with
          | zero =>
            intro oo hooe S hE
            have hoo0 : oo = m + 1 := by omega
            refine s_iload C 5 dX2_fillLikeliesOf_13 rfl ?_
            refine s_iload_n C 2 dX2_fillLikeliesOf_15 rfl ?_
            refine s_icmp_gtN 126 C dX2_fillLikeliesOf_16 (by decide) (by omega) (by omega) (fun h16 => ?_) (fun h16 => ?_)
            · refine s_perm [0, 1, 2, 3, 4] rfl ?_
              subst hoo0
              exact hx_13 _ hE
            · exfalso; omega
          | succ fu ih_13 =>
            intro oo hooe S hE
            have hool : oo < m + 1 := by omega
            have hsb := ih_l1f_le (c := c) (g := g) (fw := fw) (r := oo) (m := m) hs24 (by omega) (fun a ha => (hc a ha).2) hfw (fun s hs y hy => (hg s hs y hy).2)
            refine s_iload C 5 dX2_fillLikeliesOf_13 rfl ?_
            refine s_iload_n C 2 dX2_fillLikeliesOf_15 rfl ?_
            refine s_icmp_gtN 126 C dX2_fillLikeliesOf_16 (by decide) (by omega) (by omega) (fun h16 => ?_) (fun h16 => ?_)
            · exfalso; omega
            · refine s_lconst (v := lN 0) C dX2_fillLikeliesOf_19 rfl ?_
              refine s_lstore (lv' := [(6, .long (lN (0))), (0, .ref (w.2.2 46)), (1, .ref (w.2.2 (20 + 2 * k))), (2, .int (nI m)), (3, .int (nI fw)), (4, .int (nI ss)), (5, .int (nI oo))]) C dX2_fillLikeliesOf_20 (by decide) rfl ?_
              refine s_iconst (v := nI 0) C dX2_fillLikeliesOf_22 (by decide) ?_
              refine s_istore (lv' := [(8, .int (nI 0)), (6, .long (lN (0))), (0, .ref (w.2.2 46)), (1, .ref (w.2.2 (20 + 2 * k))), (2, .int (nI m)), (3, .int (nI fw)), (4, .int (nI ss)), (5, .int (nI oo))]) C dX2_fillLikeliesOf_23 (by decide) rfl ?_
              have hx_25 : ∀ S, ih_FJ Sb S kl c g fw m ss oo → ih_Mw x w ih_shX A Q 11 0 0 100 [(0, .ref (w.2.2 46)), (1, .ref (w.2.2 (20 + 2 * k))), (2, .int (nI m)), (3, .int (nI fw)), (4, .int (nI ss)), (5, .int (nI oo)), (6, .long (lN (ih_sum (ih_l1f c g fw ss oo) (6))))] [] S := by
                intro S hE
                refine s_aload_n C 0 dX2_fillLikeliesOf_100 rfl ?_
                refine s_getR C 2 7 (by rw [hE.1]; exact hl7) (by decide) rfl (by decide) rfl (fun _ h => List.mem_cons_of_mem _ (List.mem_append_left _ (List.mem_append_right _ h))) (by decide) rfl (by decide +kernel) dX2_fillLikeliesOf_101 ?_
                refine s_iload C 4 dX2_fillLikeliesOf_104 rfl ?_
                refine s_bipush (v := nI 10) C dX2_fillLikeliesOf_106 (by decide) ?_
                refine s_imulN C dX2_fillLikeliesOf_108 ?_
                refine s_iload C 5 dX2_fillLikeliesOf_109 rfl ?_
                refine s_iaddN C dX2_fillLikeliesOf_111 ?_
                refine s_lload C 6 dX2_fillLikeliesOf_112 rfl ?_
                refine s_ldc2 (v := lN 1000) C (by decide +kernel) dX2_fillLikeliesOf_114 ?_
                refine s_ldivN C dX2_fillLikeliesOf_117 (by omega) (by omega) (by omega) ?_
                refine s_l2iN C dX2_fillLikeliesOf_118 ?_
                refine s_iastore C 250 ((ss * 10) + oo) rfl hkll (by omega) (by decide) (show kl < 62 by omega) hkld dX2_fillLikeliesOf_119 ?_
                refine s_iinc (u := nI (oo + 1)) (lv' := [(5, .int (nI (oo + 1))), (0, .ref (w.2.2 46)), (1, .ref (w.2.2 (20 + 2 * k))), (2, .int (nI m)), (3, .int (nI fw)), (4, .int (nI ss)), (6, .long (lN (ih_sum (ih_l1f c g fw ss oo) (6))))]) C 5 dX2_fillLikeliesOf_120 rfl (ih_incN (by decide)) (by decide) rfl ?_
                refine s_goto C 13 dX2_fillLikeliesOf_123 (by decide) ?_
                refine s_perm [1, 2, 3, 4, 5, 0] rfl ?_
                exact ih_13 (oo + 1) (by omega) _ (ih_FJ_w hE hs24 (by omega) hm)
              have loop_25 : ∀ (fu a : Nat), a + fu = 6 → ∀ S, ih_FJ Sb S kl c g fw m ss oo → ih_Mw x w ih_shX A Q 11 0 0 25 [(0, .ref (w.2.2 46)), (1, .ref (w.2.2 (20 + 2 * k))), (2, .int (nI m)), (3, .int (nI fw)), (4, .int (nI ss)), (5, .int (nI oo)), (6, .long (lN (ih_sum (ih_l1f c g fw ss oo) (a)))), (8, .int (nI a))] [] S := by
                intro fu
                induction fu with
                | zero =>
                  intro a hae S hE
                  have ha0 : a = 6 := by omega
                  refine s_iload C 7 dX2_fillLikeliesOf_25 rfl ?_
                  refine s_iconst (v := nI 5) C dX2_fillLikeliesOf_27 (by decide) ?_
                  refine s_icmp_gtN 100 C dX2_fillLikeliesOf_28 (by decide) (by omega) (by omega) (fun h28 => ?_) (fun h28 => ?_)
                  · refine s_perm [0, 1, 2, 3, 4, 5, 6] rfl ?_
                    subst ha0
                    exact hx_25 _ hE
                  · exfalso; omega
                | succ fu ih_25 =>
                  intro a hae S hE
                  have hal : a < 6 := by omega
                  have hpS : ih_PX S := fun a b i q => by rw [hE.1]; exact hp a b i q
                  refine s_iload C 7 dX2_fillLikeliesOf_25 rfl ?_
                  refine s_iconst (v := nI 5) C dX2_fillLikeliesOf_27 (by decide) ?_
                  refine s_icmp_gtN 100 C dX2_fillLikeliesOf_28 (by decide) (by omega) (by omega) (fun h28 => ?_) (fun h28 => ?_)
                  · exfalso; omega
                  · refine s_iload C 5 dX2_fillLikeliesOf_31 rfl ?_
                    refine s_aload_n C 0 dX2_fillLikeliesOf_33 rfl ?_
                    refine s_getR C 2 0 (hpS _ _ _ rfl) (by decide) rfl (by decide) rfl (fun _ h => List.mem_cons_of_mem _ (List.mem_append_left _ (List.mem_append_right _ h))) (by decide) rfl (by decide +kernel) dX2_fillLikeliesOf_34 ?_
                    refine s_iload C 4 dX2_fillLikeliesOf_37 rfl ?_
                    refine s_iload C 7 dX2_fillLikeliesOf_39 rfl ?_
                    refine s_callVi 2 C (c_X1_runsOf _ w _ hpS ss a (by omega) (by omega)) gX2_fillLikeliesOf_X1_runsOf rfl (by decide +kernel) (by decide) (by decide) (by decide) rfl (by decide) rfl rfl rfl (Nat.le_of_ble_eq_true rfl) dX2_fillLikeliesOf_41 ?_
                    rintro rb S2 ⟨hrb, hSS⟩
                    obtain rfl := hSS.symm
                    rw [hE.2.1 45 (by omega), (rx_b_6 hb hs24 (by omega)).2] at hrb
                    subst hrb
                    have hrn := ih_rn_le ss hs24 a (by omega)
                    refine s_isub C dX2_fillLikeliesOf_44  ?_
                    by_cases hof : ih_rn ss a ≤ oo
                    · refine s_toe (pk_sub hof) ?_
                      refine s_istore (lv' := [(9, .int (nI (oo - ih_rn ss a))), (0, .ref (w.2.2 46)), (1, .ref (w.2.2 (20 + 2 * k))), (2, .int (nI m)), (3, .int (nI fw)), (4, .int (nI ss)), (5, .int (nI oo)), (6, .long (lN (ih_sum (ih_l1f c g fw ss oo) (a)))), (8, .int (nI a))]) C dX2_fillLikeliesOf_45 (by decide) rfl ?_
                      refine s_aload_n C 1 dX2_fillLikeliesOf_47 rfl ?_
                      refine s_getR C 2 0 (hpS _ _ _ rfl) (by decide) rfl (by decide) rfl (fun _ h => List.mem_cons_of_mem _ (List.mem_append_left _ (List.mem_append_right _ h))) (by decide) rfl (by decide +kernel) dX2_fillLikeliesOf_48 ?_
                      refine s_iload C 5 dX2_fillLikeliesOf_51 rfl ?_
                      refine s_iload C 8 dX2_fillLikeliesOf_53 rfl ?_
                      refine s_callVi 2 C (c_X1_standingAfter _ w _ hpS ss a (by omega) (by omega)) gX2_fillLikeliesOf_X1_standingAfter rfl (by decide +kernel) (by decide) (by decide) (by decide) rfl (by decide) rfl rfl rfl (Nat.le_of_ble_eq_true rfl) dX2_fillLikeliesOf_55 ?_
                      rintro ra S2 ⟨hra, hSS⟩
                      obtain rfl := hSS.symm
                      rw [hE.2.1 44 (by omega), (rx_b_6 hb hs24 (by omega)).1] at hra
                      subst hra
                      have hnx := ih_nx_le ss hs24 a (by omega)
                      refine s_bipush (v := nI 10) C dX2_fillLikeliesOf_58 (by decide) ?_
                      refine s_imulN C dX2_fillLikeliesOf_60 ?_
                      refine s_iload C 0 dX2_fillLikeliesOf_61 rfl ?_
                      refine s_iaddN C dX2_fillLikeliesOf_63 ?_
                      refine s_istore (lv' := [(10, .int (nI (((ih_nx ss a) * 10) + (oo - ih_rn ss a)))), (9, .int (nI (oo - ih_rn ss a))), (0, .ref (w.2.2 46)), (1, .ref (w.2.2 (20 + 2 * k))), (2, .int (nI m)), (3, .int (nI fw)), (4, .int (nI ss)), (5, .int (nI oo)), (6, .long (lN (ih_sum (ih_l1f c g fw ss oo) (a)))), (8, .int (nI a))]) C dX2_fillLikeliesOf_64 (by decide) rfl ?_
                      refine s_lload C 8 dX2_fillLikeliesOf_66 rfl ?_
                      refine s_aload_n C 3 dX2_fillLikeliesOf_68 rfl ?_
                      refine s_iload C 9 dX2_fillLikeliesOf_69 rfl ?_
                      refine s_iaload C 6 (a) rfl (ih_lX_ch hk) (by omega) (by decide) (by show 20 + 2 * k < 62; omega) (ih_kX_ch hk) dX2_fillLikeliesOf_71 ?_
                      refine s_toe (b := nI (c a)) ((congrFun (hE.2.1 _ (by omega)) _).trans (hc a (by omega)).1) ?_
                      have hcb := (hc a (by omega)).2
                      refine s_i2lN C dX2_fillLikeliesOf_72 (by omega) ?_
                      refine s_iload C 1 dX2_fillLikeliesOf_73 rfl ?_
                      refine s_if_geN 82 C dX2_fillLikeliesOf_75 (by decide) (by omega) (fun h75 => ?_) (fun h75 => ?_)
                      · refine s_aload_n C 2 dX2_fillLikeliesOf_82 rfl ?_
                        refine s_getR C 2 8 (by rw [hE.1]; exact hl8) (by decide) rfl (by decide) rfl (fun _ h => List.mem_cons_of_mem _ (List.mem_append_left _ (List.mem_append_right _ h))) (by decide) rfl (by decide +kernel) dX2_fillLikeliesOf_83 ?_
                        refine s_iload C 0 dX2_fillLikeliesOf_86 rfl ?_
                        refine s_iaload C 250 (((ih_nx ss a) * 10) + (oo - ih_rn ss a)) rfl hkbl (by omega) (by decide) (show kb < 62 by omega) hkbd dX2_fillLikeliesOf_88 ?_
                        have hgb := (hg _ hnx (oo - ih_rn ss a) (by omega)).2
                        refine s_toe (b := nI (g (ih_nx ss a) (oo - ih_rn ss a))) ((congrFun (hE.2.1 kb hne) _).trans (hg _ hnx _ (by omega)).1) ?_
                        refine s_i2lN C dX2_fillLikeliesOf_89 (by omega) ?_
                        refine s_tol (b := lN (if oo < ih_rn ss a then fw else g (ih_nx ss a) (oo - ih_rn ss a))) (congrArg lN (by rw [if_neg (by omega)])) ?_
                        refine s_lmulN C dX2_fillLikeliesOf_90 ?_
                        refine s_laddN C dX2_fillLikeliesOf_91 ?_
                        refine s_tol (b := lN (ih_sum (ih_l1f c g fw ss oo) (a + 1))) rfl ?_
                        refine s_lstore (lv' := [(6, .long (lN (ih_sum (ih_l1f c g fw ss oo) (a + 1)))), (10, .int (nI (((ih_nx ss a) * 10) + (oo - ih_rn ss a)))), (9, .int (nI (oo - ih_rn ss a))), (0, .ref (w.2.2 46)), (1, .ref (w.2.2 (20 + 2 * k))), (2, .int (nI m)), (3, .int (nI fw)), (4, .int (nI ss)), (5, .int (nI oo)), (8, .int (nI a))]) C dX2_fillLikeliesOf_92 (by decide) rfl ?_
                        refine s_iinc (u := nI (a + 1)) (lv' := [(8, .int (nI (a + 1))), (6, .long (lN (ih_sum (ih_l1f c g fw ss oo) (a + 1)))), (10, .int (nI (((ih_nx ss a) * 10) + (oo - ih_rn ss a)))), (9, .int (nI (oo - ih_rn ss a))), (0, .ref (w.2.2 46)), (1, .ref (w.2.2 (20 + 2 * k))), (2, .int (nI m)), (3, .int (nI fw)), (4, .int (nI ss)), (5, .int (nI oo))]) C 9 dX2_fillLikeliesOf_94 rfl (ih_incN (by decide)) (by decide) rfl ?_
                        refine s_goto C 25 dX2_fillLikeliesOf_97 (by decide) ?_
                        refine s_perm [4, 5, 6, 7, 8, 9, 1, 0] rfl ?_
                        exact ih_25 (a + 1) (by omega) _ hE
                      · exfalso; omega
                    · have hneg : (nI oo - nI (ih_rn ss a)).toInt < 0 := by rw [pk_sub_toInt (by omega) (by omega)]; omega
                      refine s_istore (lv' := [(9, .int (nI oo - nI (ih_rn ss a))), (0, .ref (w.2.2 46)), (1, .ref (w.2.2 (20 + 2 * k))), (2, .int (nI m)), (3, .int (nI fw)), (4, .int (nI ss)), (5, .int (nI oo)), (6, .long (lN (ih_sum (ih_l1f c g fw ss oo) (a)))), (8, .int (nI a))]) C dX2_fillLikeliesOf_45 (by decide) rfl ?_
                      refine s_aload_n C 1 dX2_fillLikeliesOf_47 rfl ?_
                      refine s_getR C 2 0 (hpS _ _ _ rfl) (by decide) rfl (by decide) rfl (fun _ h => List.mem_cons_of_mem _ (List.mem_append_left _ (List.mem_append_right _ h))) (by decide) rfl (by decide +kernel) dX2_fillLikeliesOf_48 ?_
                      refine s_iload C 5 dX2_fillLikeliesOf_51 rfl ?_
                      refine s_iload C 8 dX2_fillLikeliesOf_53 rfl ?_
                      refine s_callVi 2 C (c_X1_standingAfter _ w _ hpS ss a (by omega) (by omega)) gX2_fillLikeliesOf_X1_standingAfter rfl (by decide +kernel) (by decide) (by decide) (by decide) rfl (by decide) rfl rfl rfl (Nat.le_of_ble_eq_true rfl) dX2_fillLikeliesOf_55 ?_
                      rintro ra S2 ⟨hra, hSS⟩
                      obtain rfl := hSS.symm
                      rw [hE.2.1 44 (by omega), (rx_b_6 hb hs24 (by omega)).1] at hra
                      subst hra
                      have hnx := ih_nx_le ss hs24 a (by omega)
                      refine s_bipush (v := nI 10) C dX2_fillLikeliesOf_58 (by decide) ?_
                      refine s_imulN C dX2_fillLikeliesOf_60 ?_
                      refine s_iload C 0 dX2_fillLikeliesOf_61 rfl ?_
                      refine s_iadd C dX2_fillLikeliesOf_63  ?_
                      refine s_istore (lv' := [(10, .int ((nI ((ih_nx ss a) * 10)) + (nI oo - nI (ih_rn ss a)))), (9, .int (nI oo - nI (ih_rn ss a))), (0, .ref (w.2.2 46)), (1, .ref (w.2.2 (20 + 2 * k))), (2, .int (nI m)), (3, .int (nI fw)), (4, .int (nI ss)), (5, .int (nI oo)), (6, .long (lN (ih_sum (ih_l1f c g fw ss oo) (a)))), (8, .int (nI a))]) C dX2_fillLikeliesOf_64 (by decide) rfl ?_
                      refine s_lload C 8 dX2_fillLikeliesOf_66 rfl ?_
                      refine s_aload_n C 3 dX2_fillLikeliesOf_68 rfl ?_
                      refine s_iload C 9 dX2_fillLikeliesOf_69 rfl ?_
                      refine s_iaload C 6 (a) rfl (ih_lX_ch hk) (by omega) (by decide) (by show 20 + 2 * k < 62; omega) (ih_kX_ch hk) dX2_fillLikeliesOf_71 ?_
                      refine s_toe (b := nI (c a)) ((congrFun (hE.2.1 _ (by omega)) _).trans (hc a (by omega)).1) ?_
                      have hcb := (hc a (by omega)).2
                      refine s_i2lN C dX2_fillLikeliesOf_72 (by omega) ?_
                      refine s_iload C 1 dX2_fillLikeliesOf_73 rfl ?_
                      refine s_if_ge C 82 dX2_fillLikeliesOf_75 (by decide) (fun h75 => ?_) (fun h75 => ?_)
                      · simp only [ih_lei, ih_lti, ih_t0] at h75; exfalso; omega
                      · simp only [ih_lei, ih_lti, ih_t0] at h75
                        refine s_iload_n C 5 dX2_fillLikeliesOf_78 rfl ?_
                        refine s_goto C 89 dX2_fillLikeliesOf_79 (by decide) ?_
                        refine s_i2lN C dX2_fillLikeliesOf_89 (by omega) ?_
                        refine s_tol (b := lN (if oo < ih_rn ss a then fw else g (ih_nx ss a) (oo - ih_rn ss a))) (congrArg lN (by rw [if_pos (by omega)])) ?_
                        refine s_lmulN C dX2_fillLikeliesOf_90 ?_
                        refine s_laddN C dX2_fillLikeliesOf_91 ?_
                        refine s_tol (b := lN (ih_sum (ih_l1f c g fw ss oo) (a + 1))) rfl ?_
                        refine s_lstore (lv' := [(6, .long (lN (ih_sum (ih_l1f c g fw ss oo) (a + 1)))), (10, .int ((nI ((ih_nx ss a) * 10)) + (nI oo - nI (ih_rn ss a)))), (9, .int (nI oo - nI (ih_rn ss a))), (0, .ref (w.2.2 46)), (1, .ref (w.2.2 (20 + 2 * k))), (2, .int (nI m)), (3, .int (nI fw)), (4, .int (nI ss)), (5, .int (nI oo)), (8, .int (nI a))]) C dX2_fillLikeliesOf_92 (by decide) rfl ?_
                        refine s_iinc (u := nI (a + 1)) (lv' := [(8, .int (nI (a + 1))), (6, .long (lN (ih_sum (ih_l1f c g fw ss oo) (a + 1)))), (10, .int ((nI ((ih_nx ss a) * 10)) + (nI oo - nI (ih_rn ss a)))), (9, .int (nI oo - nI (ih_rn ss a))), (0, .ref (w.2.2 46)), (1, .ref (w.2.2 (20 + 2 * k))), (2, .int (nI m)), (3, .int (nI fw)), (4, .int (nI ss)), (5, .int (nI oo))]) C 9 dX2_fillLikeliesOf_94 rfl (ih_incN (by decide)) (by decide) rfl ?_
                        refine s_goto C 25 dX2_fillLikeliesOf_97 (by decide) ?_
                        refine s_perm [4, 5, 6, 7, 8, 9, 1, 0] rfl ?_
                        exact ih_25 (a + 1) (by omega) _ hE
              refine s_perm [2, 3, 4, 5, 6, 7, 1, 0] rfl ?_
              exact loop_25 6 0 (by omega) _ hE
        refine s_perm [1, 2, 3, 4, 5, 0] rfl ?_
        exact loop_13 (m + 1) 0 (by omega) _ hE
  refine s_perm [1, 2, 3, 4, 0] rfl ?_
  exact loop_3 24 0 (by omega) _ ⟨rfl, fun _ _ => rfl, fun z y hz hy hc => by omega, fun _ _ => rfl⟩

/-- what the rows of likelies hold behind v strikes -/
def ih_LI (S : ih_Sg) (T : ih_TT) (b : Bool) (kl kb p n r v : Nat) : Prop := ((kl = 51 ∧ kb = 52) ∨ (kl = 52 ∧ kb = 51)) ∧ S.2.2 46 7 = some kl ∧ S.2.2 46 8 = some kb ∧ (∀ s, s < 25 → ∀ y, y ≤ r → S.1 kl (s * 10 + y) = nI (ih_lk b (ih_cc T) (ih_pl T) v ((p + n - v) % ih_pl T) s y)) ∧ ∀ y, y ≤ r → S.1 kb (240 + y) = nI (if y = 0 then 1000000 else 0)
def ih_LIx (S : ih_Sg) (T : ih_TT) (b : Bool) (p n r v : Nat) : Prop := ih_RX S T ∧ ∃ kl kb, ih_LI S T b kl kb p n r v
theorem ih_RX_sw2 {S : ih_Sg} {T : ih_TT} (h : ih_RX S T) {kl kb : Nat} (hmb : (kl = 51 ∧ kb = 52) ∨ (kl = 52 ∧ kb = 51)) : ih_RX (ih_sR (ih_sR S 46 8 (some kl)) 46 7 (some kb)) T := by
  refine ih_RX_p h rfl (ih_PX_R (ih_PX_R h.1 rfl) rfl) ⟨?_, ?_, ?_⟩
  · exact h.2.1.1
  · rcases hmb with ⟨rfl, rfl⟩ | ⟨rfl, rfl⟩
    · exact Or.inr ⟨rfl, rfl⟩
    · exact Or.inl ⟨rfl, rfl⟩
  · exact h.2.1.2.2
theorem ih_LI_s {S V : ih_Sg} {T : ih_TT} {b : Bool} {kl kb p n r v fw : Nat} (hpl0 : 0 < ih_pl T) (hv : v < n) (hr : r < 10) (hfw : fw = if b = true then 1000000 else 0) (h : ih_LI S T b kl kb p n r v) (hF : ih_FJ (ih_sR (ih_sR S 46 8 (some kl)) 46 7 (some kb)) V kb (ih_cc T ((p + n - (v + 1)) % ih_pl T)) (ih_lk b (ih_cc T) (ih_pl T) v ((p + n - v) % ih_pl T)) fw r 24 0) : ih_LI V T b kb kl p n r (v + 1) := by
  obtain ⟨h1, h2, h3, h4, h5⟩ := h
  obtain ⟨f1, f2, f3, f4⟩ := hF
  have e1 : ((p + n - (v + 1)) % ih_pl T + 1) % ih_pl T = (p + n - v) % ih_pl T := by
    rw [Nat.mod_add_mod]
    exact congrArg (· % ih_pl T) (by omega)
  have f2' : V.1 kl = S.1 kl := f2 kl (by omega)
  refine ⟨by omega, by rw [f1]; rfl, by rw [f1]; rfl, fun s hs y hy => ?_, fun y hy => ?_⟩
  · rcases Nat.lt_or_ge s 24 with q | q
    · rw [f3 s y q hy (by omega), ih_lk_s q]
      refine congrArg (fun z => nI (z / 1000)) (ih_sum_congr (fun a ha => ?_))
      unfold ih_l1f ih_lf
      rw [e1, hfw]
    · obtain rfl : s = 24 := by omega
      rw [show 24 * 10 = 240 from rfl, f4 y (by omega), ih_lk_o (by omega)]
      exact h5 y hy
  · rw [f2']
    have h6 := h4 24 (by omega) y hy
    rw [ih_lk_o (by omega)] at h6
    exact h6
theorem ih_LI_0 {Sa Sc S : ih_Sg} {T : ih_TT} {b : Bool} {kl kb p n r : Nat} (h : ih_RX Sa T) (hmb : (kl = 51 ∧ kb = 52) ∨ (kl = 52 ∧ kb = 51)) (h7 : Sa.2.2 46 7 = some kl) (h8 : Sa.2.2 46 8 = some kb) (hr : r < 10) (hA : ih_LB Sa Sc kl 25) (hB : ih_LB Sc S kb 25) : ih_LIx S T b p n r 0 := by
  obtain ⟨a1, a2, a3⟩ := hA
  obtain ⟨b1, b2, b3⟩ := hB
  have e : S.2 = Sa.2 := b1.trans a1
  refine ⟨ih_RX_l h (fun k h1 h2 => (b2 k (by omega)).trans (a2 k (by omega))) (fun a c i q => by rw [e]; exact h.1 a c i q) (by rw [e]; exact h.2.1), kl, kb, hmb, by rw [e]; exact h7, by rw [e]; exact h8, fun s hs y hy => ?_, fun y hy => ?_⟩
  · rw [b2 kl (by omega), a3 s y hs (by omega), ih_lk_z]
    by_cases hy0 : y = 0
    · rw [if_pos ⟨hy0, hs⟩, if_pos hy0]
    · rw [if_neg (by omega), if_neg hy0]
  · rw [show 240 + y = 24 * 10 + y from rfl, b3 24 y (by omega) (by omega)]
    by_cases hy0 : y = 0
    · rw [if_pos ⟨hy0, by omega⟩, if_pos hy0]
    · rw [if_neg (by omega), if_neg hy0]
set_option maxHeartbeats 4000000 in
set_option maxRecDepth 100000 in
theorem c_X2_likelyFrom (l : Launch) (w : ih_Wd) (S : ih_Sg) (T : ih_TT) (hX : ih_RX S T) (hI : ih_Inv T) (hpl0 : 0 < ih_pl T) (s p n r_ : Nat) (hs : s < 25) (hpp : p < ih_pl T) (hn : n ≤ 30) (hr : r_ < 10) : ih_Ci l yX2_likelyFrom wsX2_likelyFrom 2 w ih_shX [.ref (w.2.2 46), .int (nI s), .int (nI p), .int (nI n), .int (nI r_)] S (fun r S' => r = nI (ih_lk (decide (r_ = 9)) (ih_cc T) (ih_pl T) n p s r_) ∧ ih_RX S' T) := by
  refine ih_bodyi (ret := some .int) rfl rfl (Nat.le_of_ble_eq_true rfl) ?_
  intro x A hA C
  have C : ih_Ok x w A cX2_likelyFrom 8 RX2 wsX2_likelyFrom (ih_rm 2) (some .int) := C
  show ih_Mw x w ih_shX A (ih_Qi x w ih_shX A _) 8 0 0 0 [(0, .ref (w.2.2 46)), (1, .int (nI s)), (2, .int (nI p)), (3, .int (nI n)), (4, .int (nI r_))] [] S
  obtain ⟨Q, hQ⟩ : ∃ Q, Q = ih_Qi x w ih_shX A (fun r S' => r = nI (ih_lk (decide (r_ = 9)) (ih_cc T) (ih_pl T) n p s r_) ∧ ih_RX S' T) := ⟨_, rfl⟩
  rw [show ih_Qi x w ih_shX A _ = Q from hQ.symm]
  have hpl9 : ih_pl T ≤ 9 := hI.2.2.1.2.1
  have hct : ih_ct T ≤ 12 := hI.2.1.2.1
  have hok := ih_cc_ok hI
  obtain ⟨kl, kb, hmb, h7, h8⟩ : ∃ kl kb, ((kl = 51 ∧ kb = 52) ∨ (kl = 52 ∧ kb = 51)) ∧ S.2.2 46 7 = some kl ∧ S.2.2 46 8 = some kb := by
    rcases hX.2.1.2.1 with q | q
    · exact ⟨51, 52, Or.inl ⟨rfl, rfl⟩, q⟩
    · exact ⟨52, 51, Or.inr ⟨rfl, rfl⟩, q⟩
  have hkld : ih_shX.1 kl = 9 := by rcases hmb with ⟨rfl, rfl⟩ | ⟨rfl, rfl⟩ <;> rfl
  have hkll : ih_shX.2.1 kl = 250 := by rcases hmb with ⟨rfl, rfl⟩ | ⟨rfl, rfl⟩ <;> rfl
  have hkbd : ih_shX.1 kb = 9 := by rcases hmb with ⟨rfl, rfl⟩ | ⟨rfl, rfl⟩ <;> rfl
  have hkbl : ih_shX.2.1 kb = 250 := by rcases hmb with ⟨rfl, rfl⟩ | ⟨rfl, rfl⟩ <;> rfl
  have hne : kb ≠ kl := by omega
  obtain ⟨fw, hfw⟩ : ∃ fw : Nat, fw = if (decide (r_ = 9)) = true then 1000000 else 0 := ⟨_, rfl⟩
  have hfwb : fw ≤ 1000000 := by rw [hfw]; split <;> decide
  refine s_iload C 4 dX2_likelyFrom_0 rfl ?_
  refine s_bipush (v := nI 9) C dX2_likelyFrom_2 (by decide) ?_
  refine s_icmp_neN 12 C dX2_likelyFrom_4 (by decide) (by omega) (by omega) (fun h4 => ?_) (fun h4 => ?_)
  · refine s_iconst (v := nI 0) C dX2_likelyFrom_12 (by decide) ?_
    refine s_toe (b := nI fw) (congrArg nI (by rw [hfw, if_neg (by rw [decide_eq_true_eq]; omega)])) ?_
    refine s_istore (lv' := [(5, .int (nI fw)), (0, .ref (w.2.2 46)), (1, .int (nI s)), (2, .int (nI p)), (3, .int (nI n)), (4, .int (nI r_))]) C dX2_likelyFrom_13 (by decide) rfl ?_
    refine s_aload_n C 1 dX2_likelyFrom_15 rfl ?_
    refine s_getR C 2 7 h7 (by decide) rfl (by decide) rfl (fun _ h => List.mem_cons_of_mem _ (List.mem_append_left _ (List.mem_append_left _ (List.mem_append_right _ h)))) (by decide) rfl (by decide +kernel) dX2_likelyFrom_16 ?_
    refine s_callSv 1 C (c_X2_beginLikelies _ w _ kl (by omega) hkld hkll) gX2_likelyFrom_X2_beginLikelies rfl (by decide +kernel) (by decide) (by decide) rfl rfl (Nat.le_of_ble_eq_true rfl) dX2_likelyFrom_19 ?_
    rintro S6 hS6
    refine s_aload_n C 1 dX2_likelyFrom_22 rfl ?_
    refine s_getR C 2 8 (by rw [hS6.1]; exact h8) (by decide) rfl (by decide) rfl (fun _ h => List.mem_cons_of_mem _ (List.mem_append_left _ (List.mem_append_left _ (List.mem_append_right _ h)))) (by decide) rfl (by decide +kernel) dX2_likelyFrom_23 ?_
    refine s_callSv 1 C (c_X2_beginLikelies _ w _ kb (by omega) hkbd hkbl) gX2_likelyFrom_X2_beginLikelies rfl (by decide +kernel) (by decide) (by decide) rfl rfl (Nat.le_of_ble_eq_true rfl) dX2_likelyFrom_26 ?_
    rintro S7 hS7
    refine s_iconst (v := nI 1) C dX2_likelyFrom_29 (by decide) ?_
    refine s_istore (lv' := [(6, .int (nI 1)), (5, .int (nI fw)), (0, .ref (w.2.2 46)), (1, .int (nI s)), (2, .int (nI p)), (3, .int (nI n)), (4, .int (nI r_))]) C dX2_likelyFrom_30 (by decide) rfl ?_
    have hx_32 : ∀ S, ih_LIx S T (decide (r_ = 9)) p n r_ (n) → ih_Mw x w ih_shX A Q 8 0 0 82 [(0, .ref (w.2.2 46)), (1, .int (nI s)), (2, .int (nI p)), (3, .int (nI n)), (4, .int (nI r_)), (5, .int (nI fw))] [] S := by
      intro S hE
      obtain ⟨kl, kb, hM⟩ := hE.2
      have hmb := hM.1
      have hkld : ih_shX.1 kl = 9 := by rcases hmb with ⟨rfl, rfl⟩ | ⟨rfl, rfl⟩ <;> rfl
      have hkll : ih_shX.2.1 kl = 250 := by rcases hmb with ⟨rfl, rfl⟩ | ⟨rfl, rfl⟩ <;> rfl
      have hkbd : ih_shX.1 kb = 9 := by rcases hmb with ⟨rfl, rfl⟩ | ⟨rfl, rfl⟩ <;> rfl
      have hkbl : ih_shX.2.1 kb = 250 := by rcases hmb with ⟨rfl, rfl⟩ | ⟨rfl, rfl⟩ <;> rfl
      have hne : kb ≠ kl := by omega
      refine s_aload_n C 0 dX2_likelyFrom_82 rfl ?_
      refine s_getR C 2 7 hM.2.1 (by decide) rfl (by decide) rfl (fun _ h => List.mem_cons_of_mem _ (List.mem_append_left _ (List.mem_append_left _ (List.mem_append_right _ h)))) (by decide) rfl (by decide +kernel) dX2_likelyFrom_83 ?_
      refine s_iload_n C 1 dX2_likelyFrom_86 rfl ?_
      refine s_bipush (v := nI 10) C dX2_likelyFrom_87 (by decide) ?_
      refine s_imulN C dX2_likelyFrom_89 ?_
      refine s_iload C 4 dX2_likelyFrom_90 rfl ?_
      refine s_iaddN C dX2_likelyFrom_92 ?_
      refine s_iaload C 250 ((s * 10) + r_) rfl hkll (by omega) (by decide) (show kl < 62 by omega) hkld dX2_likelyFrom_93 ?_
      refine s_toe (b := nI (ih_lk (decide (r_ = 9)) (ih_cc T) (ih_pl T) n p s r_)) (by have q := hM.2.2.2.1 s hs r_ (Nat.le_refl _); rw [show p + n - n = p by omega, Nat.mod_eq_of_lt hpp] at q; exact q) ?_
      rw [hQ]
      exact s_ireturn C hA dX2_likelyFrom_94 ⟨rfl, hE.1⟩
    have loop_32 : ∀ (fu v : Nat), v + fu = n → ∀ S, ih_LIx S T (decide (r_ = 9)) p n r_ (v) → ih_Mw x w ih_shX A Q 8 0 0 32 [(0, .ref (w.2.2 46)), (1, .int (nI s)), (2, .int (nI p)), (3, .int (nI n)), (4, .int (nI r_)), (5, .int (nI fw)), (6, .int (nI (v + 1)))] [] S := by
      intro fu
      induction fu with
      | zero =>
        intro v hve S hE
        have hv0 : v = n := by omega
        refine s_iload C 6 dX2_likelyFrom_32 rfl ?_
        refine s_iload_n C 3 dX2_likelyFrom_34 rfl ?_
        refine s_icmp_gtN 82 C dX2_likelyFrom_35 (by decide) (by omega) (by omega) (fun h35 => ?_) (fun h35 => ?_)
        · refine s_perm [0, 1, 2, 3, 4, 5] rfl ?_
          subst hv0
          exact hx_32 _ hE
        · exfalso; omega
      | succ fu ih_32 =>
        intro v hve S hE
        have hvl : v < n := by omega
        obtain ⟨kl, kb, hM⟩ := hE.2
        have hor : ih_or T ((p + n - (v + 1)) % ih_pl T) < ih_ct T := (hI.2.2.1.2.2 _ (Nat.mod_lt _ hpl0)).2
        have hor12 : ih_or T ((p + n - (v + 1)) % ih_pl T) < 12 := by omega
        refine s_iload C 6 dX2_likelyFrom_32 rfl ?_
        refine s_iload_n C 3 dX2_likelyFrom_34 rfl ?_
        refine s_icmp_gtN 82 C dX2_likelyFrom_35 (by decide) (by omega) (by omega) (fun h35 => ?_) (fun h35 => ?_)
        · exfalso; omega
        · refine s_aload_n C 0 dX2_likelyFrom_38 rfl ?_
          refine s_getR C 2 8 hM.2.2.1 (by decide) rfl (by decide) rfl (fun _ h => List.mem_cons_of_mem _ (List.mem_append_left _ (List.mem_append_left _ (List.mem_append_right _ h)))) (by decide) rfl (by decide +kernel) dX2_likelyFrom_39 ?_
          refine s_astore (lv' := [(7, .ref (w.2.2 kb)), (0, .ref (w.2.2 46)), (1, .int (nI s)), (2, .int (nI p)), (3, .int (nI n)), (4, .int (nI r_)), (5, .int (nI fw)), (6, .int (nI (v + 1)))]) C dX2_likelyFrom_42 (by decide) rfl ?_
          refine s_aload_n C 1 dX2_likelyFrom_44 rfl ?_
          refine s_aload_n C 1 dX2_likelyFrom_45 rfl ?_
          refine s_getR C 2 7 hM.2.1 (by decide) rfl (by decide) rfl (fun _ h => List.mem_cons_of_mem _ (List.mem_append_left _ (List.mem_append_left _ (List.mem_append_right _ h)))) (by decide) rfl (by decide +kernel) dX2_likelyFrom_46 ?_
          refine s_putR (ty := .array .int) C 2 8 tyX2 tyX2_ok nmX2 (by decide) rfl (by decide) rfl (fun _ h => List.mem_cons_of_mem _ (List.mem_append_left _ (List.mem_append_left _ (List.mem_append_right _ h)))) (by decide) rfl (by decide +kernel) rfl (by decide +kernel) rfl rfl dX2_likelyFrom_49 ?_
          refine s_aload_n C 1 dX2_likelyFrom_52 rfl ?_
          refine s_aload C 0 dX2_likelyFrom_53 rfl ?_
          refine s_putR (ty := .array .int) C 2 7 tyX2 tyX2_ok nmX2 (by decide) rfl (by decide) rfl (fun _ h => List.mem_cons_of_mem _ (List.mem_append_left _ (List.mem_append_left _ (List.mem_append_right _ h)))) (by decide) rfl (by decide +kernel) rfl (by decide +kernel) rfl rfl dX2_likelyFrom_55 ?_
          refine s_aload_n C 1 dX2_likelyFrom_58 rfl ?_
          refine s_aload_n C 1 dX2_likelyFrom_59 rfl ?_
          refine s_iload_n C 3 dX2_likelyFrom_60 rfl ?_
          refine s_iload_n C 4 dX2_likelyFrom_61 rfl ?_
          refine s_iaddN C dX2_likelyFrom_62 ?_
          refine s_iload C 7 dX2_likelyFrom_63 rfl ?_
          refine s_isubN C dX2_likelyFrom_65 (by omega) ?_
          refine s_callVr 1 C (c_X2_chancesAt _ w _ T (ih_RX_sw2 hE.1 hM.1) hI hpl0 (p + n - (v + 1)) (by omega)) gX2_likelyFrom_X2_chancesAt rfl (by decide +kernel) (by decide) (by decide) (by decide) rfl (by decide) rfl rfl rfl (Nat.le_of_ble_eq_true rfl) dX2_likelyFrom_66 ?_
          rintro S9 i9 ⟨hS9, hi9⟩
          obtain rfl := hS9
          obtain rfl := hi9
          refine s_iload C 5 dX2_likelyFrom_69 rfl ?_
          refine s_iload C 6 dX2_likelyFrom_71 rfl ?_
          refine s_callVv 3 C (c_X2_fillLikeliesOf _ w _ (ih_RX_sw2 hE.1 hM.1).1 (ih_RX_sw2 hE.1 hM.1).2.2.2.2.2.2.2.2.2.1 kb kl (by have := hM.1; omega) rfl rfl _ hor12 (ih_cc T ((p + n - (v + 1)) % ih_pl T)) (ih_lk (decide (r_ = 9)) (ih_cc T) (ih_pl T) v ((p + n - v) % ih_pl T)) r_ fw hr hfwb (ih_RX_c (ih_RX_sw2 hE.1 hM.1) hI hor) (fun s hs y hy => ⟨hM.2.2.2.1 s hs y hy, ih_lk_le hpl0 hok v _ s y (Nat.mod_lt _ hpl0)⟩)) gX2_likelyFrom_X2_fillLikeliesOf rfl (by decide +kernel) (by decide) (by decide) (by decide) rfl (by decide) rfl rfl rfl (Nat.le_of_ble_eq_true rfl) dX2_likelyFrom_73 ?_
          rintro S8 hF
          refine s_iinc (u := nI (v + 1 + 1)) (lv' := [(6, .int (nI (v + 1 + 1))), (7, .ref (w.2.2 kb)), (0, .ref (w.2.2 46)), (1, .int (nI s)), (2, .int (nI p)), (3, .int (nI n)), (4, .int (nI r_)), (5, .int (nI fw))]) C 7 dX2_likelyFrom_76 rfl (ih_incN (by decide)) (by decide) rfl ?_
          refine s_goto C 32 dX2_likelyFrom_79 (by decide) ?_
          refine s_perm [2, 3, 4, 5, 6, 7, 0] rfl ?_
          exact ih_32 (v + 1) (by omega) _ ⟨ih_RX_l (ih_RX_sw2 hE.1 hM.1) (fun k h1 h2 => hF.2.1 k (by have := hM.1; omega)) (fun a b i q => by rw [hF.1]; exact (ih_RX_sw2 hE.1 hM.1).1 a b i q) (by rw [hF.1]; exact (ih_RX_sw2 hE.1 hM.1).2.1), kb, kl, ih_LI_s hpl0 (by omega) hr hfw hM hF⟩
    refine s_perm [2, 3, 4, 5, 6, 1, 0] rfl ?_
    exact loop_32 n 0 (by omega) _ (ih_LI_0 hX hmb h7 h8 hr hS6 hS7)
  · refine s_ldc (v := nI 1000000) C (by decide +kernel) dX2_likelyFrom_7 ?_
    refine s_goto C 13 dX2_likelyFrom_9 (by decide) ?_
    refine s_toe (b := nI fw) (congrArg nI (by rw [hfw, if_pos (by rw [decide_eq_true_eq]; omega)])) ?_
    refine s_istore (lv' := [(5, .int (nI fw)), (0, .ref (w.2.2 46)), (1, .int (nI s)), (2, .int (nI p)), (3, .int (nI n)), (4, .int (nI r_))]) C dX2_likelyFrom_13 (by decide) rfl ?_
    refine s_aload_n C 1 dX2_likelyFrom_15 rfl ?_
    refine s_getR C 2 7 h7 (by decide) rfl (by decide) rfl (fun _ h => List.mem_cons_of_mem _ (List.mem_append_left _ (List.mem_append_left _ (List.mem_append_right _ h)))) (by decide) rfl (by decide +kernel) dX2_likelyFrom_16 ?_
    refine s_callSv 1 C (c_X2_beginLikelies _ w _ kl (by omega) hkld hkll) gX2_likelyFrom_X2_beginLikelies rfl (by decide +kernel) (by decide) (by decide) rfl rfl (Nat.le_of_ble_eq_true rfl) dX2_likelyFrom_19 ?_
    rintro S6 hS6
    refine s_aload_n C 1 dX2_likelyFrom_22 rfl ?_
    refine s_getR C 2 8 (by rw [hS6.1]; exact h8) (by decide) rfl (by decide) rfl (fun _ h => List.mem_cons_of_mem _ (List.mem_append_left _ (List.mem_append_left _ (List.mem_append_right _ h)))) (by decide) rfl (by decide +kernel) dX2_likelyFrom_23 ?_
    refine s_callSv 1 C (c_X2_beginLikelies _ w _ kb (by omega) hkbd hkbl) gX2_likelyFrom_X2_beginLikelies rfl (by decide +kernel) (by decide) (by decide) rfl rfl (Nat.le_of_ble_eq_true rfl) dX2_likelyFrom_26 ?_
    rintro S7 hS7
    refine s_iconst (v := nI 1) C dX2_likelyFrom_29 (by decide) ?_
    refine s_istore (lv' := [(6, .int (nI 1)), (5, .int (nI fw)), (0, .ref (w.2.2 46)), (1, .int (nI s)), (2, .int (nI p)), (3, .int (nI n)), (4, .int (nI r_))]) C dX2_likelyFrom_30 (by decide) rfl ?_
    have hx_32 : ∀ S, ih_LIx S T (decide (r_ = 9)) p n r_ (n) → ih_Mw x w ih_shX A Q 8 0 0 82 [(0, .ref (w.2.2 46)), (1, .int (nI s)), (2, .int (nI p)), (3, .int (nI n)), (4, .int (nI r_)), (5, .int (nI fw))] [] S := by
      intro S hE
      obtain ⟨kl, kb, hM⟩ := hE.2
      have hmb := hM.1
      have hkld : ih_shX.1 kl = 9 := by rcases hmb with ⟨rfl, rfl⟩ | ⟨rfl, rfl⟩ <;> rfl
      have hkll : ih_shX.2.1 kl = 250 := by rcases hmb with ⟨rfl, rfl⟩ | ⟨rfl, rfl⟩ <;> rfl
      have hkbd : ih_shX.1 kb = 9 := by rcases hmb with ⟨rfl, rfl⟩ | ⟨rfl, rfl⟩ <;> rfl
      have hkbl : ih_shX.2.1 kb = 250 := by rcases hmb with ⟨rfl, rfl⟩ | ⟨rfl, rfl⟩ <;> rfl
      have hne : kb ≠ kl := by omega
      refine s_aload_n C 0 dX2_likelyFrom_82 rfl ?_
      refine s_getR C 2 7 hM.2.1 (by decide) rfl (by decide) rfl (fun _ h => List.mem_cons_of_mem _ (List.mem_append_left _ (List.mem_append_left _ (List.mem_append_right _ h)))) (by decide) rfl (by decide +kernel) dX2_likelyFrom_83 ?_
      refine s_iload_n C 1 dX2_likelyFrom_86 rfl ?_
      refine s_bipush (v := nI 10) C dX2_likelyFrom_87 (by decide) ?_
      refine s_imulN C dX2_likelyFrom_89 ?_
      refine s_iload C 4 dX2_likelyFrom_90 rfl ?_
      refine s_iaddN C dX2_likelyFrom_92 ?_
      refine s_iaload C 250 ((s * 10) + r_) rfl hkll (by omega) (by decide) (show kl < 62 by omega) hkld dX2_likelyFrom_93 ?_
      refine s_toe (b := nI (ih_lk (decide (r_ = 9)) (ih_cc T) (ih_pl T) n p s r_)) (by have q := hM.2.2.2.1 s hs r_ (Nat.le_refl _); rw [show p + n - n = p by omega, Nat.mod_eq_of_lt hpp] at q; exact q) ?_
      rw [hQ]
      exact s_ireturn C hA dX2_likelyFrom_94 ⟨rfl, hE.1⟩
    have loop_32 : ∀ (fu v : Nat), v + fu = n → ∀ S, ih_LIx S T (decide (r_ = 9)) p n r_ (v) → ih_Mw x w ih_shX A Q 8 0 0 32 [(0, .ref (w.2.2 46)), (1, .int (nI s)), (2, .int (nI p)), (3, .int (nI n)), (4, .int (nI r_)), (5, .int (nI fw)), (6, .int (nI (v + 1)))] [] S := by
      intro fu
      induction fu with
      | zero =>
        intro v hve S hE
        have hv0 : v = n := by omega
        refine s_iload C 6 dX2_likelyFrom_32 rfl ?_
        refine s_iload_n C 3 dX2_likelyFrom_34 rfl ?_
        refine s_icmp_gtN 82 C dX2_likelyFrom_35 (by decide) (by omega) (by omega) (fun h35 => ?_) (fun h35 => ?_)
        · refine s_perm [0, 1, 2, 3, 4, 5] rfl ?_
          subst hv0
          exact hx_32 _ hE
        · exfalso; omega
      | succ fu ih_32 =>
        intro v hve S hE
        have hvl : v < n := by omega
        obtain ⟨kl, kb, hM⟩ := hE.2
        have hor : ih_or T ((p + n - (v + 1)) % ih_pl T) < ih_ct T := (hI.2.2.1.2.2 _ (Nat.mod_lt _ hpl0)).2
        have hor12 : ih_or T ((p + n - (v + 1)) % ih_pl T) < 12 := by omega
        refine s_iload C 6 dX2_likelyFrom_32 rfl ?_
        refine s_iload_n C 3 dX2_likelyFrom_34 rfl ?_
        refine s_icmp_gtN 82 C dX2_likelyFrom_35 (by decide) (by omega) (by omega) (fun h35 => ?_) (fun h35 => ?_)
        · exfalso; omega
        · refine s_aload_n C 0 dX2_likelyFrom_38 rfl ?_
          refine s_getR C 2 8 hM.2.2.1 (by decide) rfl (by decide) rfl (fun _ h => List.mem_cons_of_mem _ (List.mem_append_left _ (List.mem_append_left _ (List.mem_append_right _ h)))) (by decide) rfl (by decide +kernel) dX2_likelyFrom_39 ?_
          refine s_astore (lv' := [(7, .ref (w.2.2 kb)), (0, .ref (w.2.2 46)), (1, .int (nI s)), (2, .int (nI p)), (3, .int (nI n)), (4, .int (nI r_)), (5, .int (nI fw)), (6, .int (nI (v + 1)))]) C dX2_likelyFrom_42 (by decide) rfl ?_
          refine s_aload_n C 1 dX2_likelyFrom_44 rfl ?_
          refine s_aload_n C 1 dX2_likelyFrom_45 rfl ?_
          refine s_getR C 2 7 hM.2.1 (by decide) rfl (by decide) rfl (fun _ h => List.mem_cons_of_mem _ (List.mem_append_left _ (List.mem_append_left _ (List.mem_append_right _ h)))) (by decide) rfl (by decide +kernel) dX2_likelyFrom_46 ?_
          refine s_putR (ty := .array .int) C 2 8 tyX2 tyX2_ok nmX2 (by decide) rfl (by decide) rfl (fun _ h => List.mem_cons_of_mem _ (List.mem_append_left _ (List.mem_append_left _ (List.mem_append_right _ h)))) (by decide) rfl (by decide +kernel) rfl (by decide +kernel) rfl rfl dX2_likelyFrom_49 ?_
          refine s_aload_n C 1 dX2_likelyFrom_52 rfl ?_
          refine s_aload C 0 dX2_likelyFrom_53 rfl ?_
          refine s_putR (ty := .array .int) C 2 7 tyX2 tyX2_ok nmX2 (by decide) rfl (by decide) rfl (fun _ h => List.mem_cons_of_mem _ (List.mem_append_left _ (List.mem_append_left _ (List.mem_append_right _ h)))) (by decide) rfl (by decide +kernel) rfl (by decide +kernel) rfl rfl dX2_likelyFrom_55 ?_
          refine s_aload_n C 1 dX2_likelyFrom_58 rfl ?_
          refine s_aload_n C 1 dX2_likelyFrom_59 rfl ?_
          refine s_iload_n C 3 dX2_likelyFrom_60 rfl ?_
          refine s_iload_n C 4 dX2_likelyFrom_61 rfl ?_
          refine s_iaddN C dX2_likelyFrom_62 ?_
          refine s_iload C 7 dX2_likelyFrom_63 rfl ?_
          refine s_isubN C dX2_likelyFrom_65 (by omega) ?_
          refine s_callVr 1 C (c_X2_chancesAt _ w _ T (ih_RX_sw2 hE.1 hM.1) hI hpl0 (p + n - (v + 1)) (by omega)) gX2_likelyFrom_X2_chancesAt rfl (by decide +kernel) (by decide) (by decide) (by decide) rfl (by decide) rfl rfl rfl (Nat.le_of_ble_eq_true rfl) dX2_likelyFrom_66 ?_
          rintro S9 i9 ⟨hS9, hi9⟩
          obtain rfl := hS9
          obtain rfl := hi9
          refine s_iload C 5 dX2_likelyFrom_69 rfl ?_
          refine s_iload C 6 dX2_likelyFrom_71 rfl ?_
          refine s_callVv 3 C (c_X2_fillLikeliesOf _ w _ (ih_RX_sw2 hE.1 hM.1).1 (ih_RX_sw2 hE.1 hM.1).2.2.2.2.2.2.2.2.2.1 kb kl (by have := hM.1; omega) rfl rfl _ hor12 (ih_cc T ((p + n - (v + 1)) % ih_pl T)) (ih_lk (decide (r_ = 9)) (ih_cc T) (ih_pl T) v ((p + n - v) % ih_pl T)) r_ fw hr hfwb (ih_RX_c (ih_RX_sw2 hE.1 hM.1) hI hor) (fun s hs y hy => ⟨hM.2.2.2.1 s hs y hy, ih_lk_le hpl0 hok v _ s y (Nat.mod_lt _ hpl0)⟩)) gX2_likelyFrom_X2_fillLikeliesOf rfl (by decide +kernel) (by decide) (by decide) (by decide) rfl (by decide) rfl rfl rfl (Nat.le_of_ble_eq_true rfl) dX2_likelyFrom_73 ?_
          rintro S8 hF
          refine s_iinc (u := nI (v + 1 + 1)) (lv' := [(6, .int (nI (v + 1 + 1))), (7, .ref (w.2.2 kb)), (0, .ref (w.2.2 46)), (1, .int (nI s)), (2, .int (nI p)), (3, .int (nI n)), (4, .int (nI r_)), (5, .int (nI fw))]) C 7 dX2_likelyFrom_76 rfl (ih_incN (by decide)) (by decide) rfl ?_
          refine s_goto C 32 dX2_likelyFrom_79 (by decide) ?_
          refine s_perm [2, 3, 4, 5, 6, 7, 0] rfl ?_
          exact ih_32 (v + 1) (by omega) _ ⟨ih_RX_l (ih_RX_sw2 hE.1 hM.1) (fun k h1 h2 => hF.2.1 k (by have := hM.1; omega)) (fun a b i q => by rw [hF.1]; exact (ih_RX_sw2 hE.1 hM.1).1 a b i q) (by rw [hF.1]; exact (ih_RX_sw2 hE.1 hM.1).2.1), kb, kl, ih_LI_s hpl0 (by omega) hr hfw hM hF⟩
    refine s_perm [2, 3, 4, 5, 6, 1, 0] rfl ?_
    exact loop_32 n 0 (by omega) _ (ih_LI_0 hX hmb h7 h8 hr hS6 hS7)

set_option maxHeartbeats 4000000 in
set_option maxRecDepth 100000 in
theorem c_X7_likely (l : Launch) (w : ih_Wd) (S : ih_Sg) (T : ih_TT) (hX : ih_RX S T) (hI : ih_Inv T) (s p n r_ : Int32) : ih_Ci l yX7_likely wsX7_likely 3 w ih_shX [.ref (w.2.2 0), .int s, .int p, .int n, .int r_] S (fun r S' => r = sp_likely T s p n r_ ∧ ih_RX S' T) := by
  refine ih_bodyi (ret := some .int) rfl rfl (Nat.le_of_ble_eq_true rfl) ?_
  intro x A hA C
  have C : ih_Ok x w A cX7_likely 5 RX7 wsX7_likely (ih_rm 3) (some .int) := C
  show ih_Mw x w ih_shX A (ih_Qi x w ih_shX A _) 5 0 0 0 [(0, .ref (w.2.2 0)), (1, .int s), (2, .int p), (3, .int n), (4, .int r_)] [] S
  have hct : ih_ct T ≤ 12 := hI.2.1.2.1
  have hp := hX.1
  have hpl9 : ih_pl T ≤ 9 := hI.2.2.1.2.1
  refine s_iload_n C 1 dX7_likely_0 rfl ?_
  refine s_iconst (v := nI 0) C dX7_likely_1 (by decide) ?_
  refine s_bipush (v := nI 24) C dX7_likely_2 (by decide) ?_
  refine s_callSi 3 C (c_X7_within _ w _ _ _ _ _) gX7_likely_X7_within rfl (by decide +kernel) (by decide) (by decide) rfl rfl (Nat.le_of_ble_eq_true rfl) dX7_likely_4 ?_
  rintro rw4 S2 ⟨hrw4, hSS⟩
  obtain rfl := hSS.symm
  rw [ih_t (by decide), ih_t (by decide)] at hrw4
  refine s_if_eq C 39 dX7_likely_7 (by decide) (fun h7 => ?_) (fun h7 => ?_)
  · replace h7 := ih_b0 hrw4 h7
    refine s_ldc (v := (-1000001)) C (by decide +kernel) dX7_likely_39 ?_
    exact s_ireturn C hA dX7_likely_41 (by rw [sp_likely, if_neg (by omega)]; exact ⟨rfl, hX⟩)
  · replace h7 := ih_b1 hrw4 h7
    refine s_aload_n C 0 dX7_likely_10 rfl ?_
    refine s_iload_n C 2 dX7_likely_11 rfl ?_
    refine s_callVi 1 C (c_X7_isPlace _ w _ hp (ih_pl T) (by omega) (ih_RX_pl hX hI) _) gX7_likely_X7_isPlace rfl (by decide +kernel) (by decide) (by decide) (by decide) rfl (by decide) rfl rfl rfl (Nat.le_of_ble_eq_true rfl) dX7_likely_12 ?_
    rintro rp12 S2 ⟨hrp12, hSS⟩
    obtain rfl := hSS.symm
    refine s_if_eq C 39 dX7_likely_15 (by decide) (fun h15 => ?_) (fun h15 => ?_)
    · replace h15 := ih_b0 hrp12 h15
      refine s_ldc (v := (-1000001)) C (by decide +kernel) dX7_likely_39 ?_
      exact s_ireturn C hA dX7_likely_41 (by rw [sp_likely, if_neg (by omega)]; exact ⟨rfl, hX⟩)
    · replace h15 := ih_b1 hrp12 h15
      refine s_iload_n C 3 dX7_likely_18 rfl ?_
      refine s_iconst (v := nI 0) C dX7_likely_19 (by decide) ?_
      refine s_bipush (v := nI 30) C dX7_likely_20 (by decide) ?_
      refine s_callSi 3 C (c_X7_within _ w _ _ _ _ _) gX7_likely_X7_within rfl (by decide +kernel) (by decide) (by decide) rfl rfl (Nat.le_of_ble_eq_true rfl) dX7_likely_22 ?_
      rintro rw22 S2 ⟨hrw22, hSS⟩
      obtain rfl := hSS.symm
      rw [ih_t (by decide), ih_t (by decide)] at hrw22
      refine s_if_eq C 39 dX7_likely_25 (by decide) (fun h25 => ?_) (fun h25 => ?_)
      · replace h25 := ih_b0 hrw22 h25
        refine s_ldc (v := (-1000001)) C (by decide +kernel) dX7_likely_39 ?_
        exact s_ireturn C hA dX7_likely_41 (by rw [sp_likely, if_neg (by omega)]; exact ⟨rfl, hX⟩)
      · replace h25 := ih_b1 hrw22 h25
        refine s_iload C 4 dX7_likely_28 rfl ?_
        refine s_iconst (v := nI 0) C dX7_likely_30 (by decide) ?_
        refine s_bipush (v := nI 9) C dX7_likely_31 (by decide) ?_
        refine s_callSi 3 C (c_X7_within _ w _ _ _ _ _) gX7_likely_X7_within rfl (by decide +kernel) (by decide) (by decide) rfl rfl (Nat.le_of_ble_eq_true rfl) dX7_likely_33 ?_
        rintro rw33 S2 ⟨hrw33, hSS⟩
        obtain rfl := hSS.symm
        rw [ih_t (by decide), ih_t (by decide)] at hrw33
        refine s_if_ne C 42 dX7_likely_36 (by decide) (fun h36 => ?_) (fun h36 => ?_)
        · replace h36 := ih_b1 hrw33 h36
          obtain ⟨sn, hsn, rfl, hsnt⟩ := ih_nat (a := s) h7.1
          obtain ⟨pn, hpn, rfl, hpnt⟩ := ih_nat (a := p) h15.1
          obtain ⟨nn, hnn, rfl, hnnt⟩ := ih_nat (a := n) h25.1
          obtain ⟨rn_, hrn_, rfl, hrn_t⟩ := ih_nat (a := r_) h36.1
          refine s_aload_n C 0 dX7_likely_42 rfl ?_
          refine s_getR C 7 4 (hp _ _ _ rfl) (by decide) rfl (by decide) rfl (fun _ h => List.mem_cons_of_mem _ (List.mem_append_left _ (List.mem_append_left _ (List.mem_append_left _ (List.mem_append_right _ h))))) (by decide) rfl (by decide +kernel) dX7_likely_43 ?_
          refine s_iload_n C 1 dX7_likely_46 rfl ?_
          refine s_iload_n C 2 dX7_likely_47 rfl ?_
          refine s_iload_n C 3 dX7_likely_48 rfl ?_
          refine s_iload C 4 dX7_likely_49 rfl ?_
          refine s_callVi 4 C (c_X2_likelyFrom _ w _ T hX hI (by omega) sn pn nn rn_ (by omega) (by omega) (by omega) (by omega)) gX7_likely_X2_likelyFrom rfl (by decide +kernel) (by decide) (by decide) (by decide) rfl (by decide) rfl rfl rfl (Nat.le_of_ble_eq_true rfl) dX7_likely_51 ?_
          rintro rr S ⟨hrr, hX⟩
          exact s_ireturn C hA dX7_likely_54 (by rw [sp_likely, if_pos (by omega), ih_n_nI hsn, ih_n_nI hpn, ih_n_nI hnn, ih_n_nI hrn_]; exact ⟨hrr, hX⟩)
        · replace h36 := ih_b0 hrw33 h36
          refine s_ldc (v := (-1000001)) C (by decide +kernel) dX7_likely_39 ?_
          exact s_ireturn C hA dX7_likely_41 (by rw [sp_likely, if_neg (by omega)]; exact ⟨rfl, hX⟩)

