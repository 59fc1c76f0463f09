theorem ih_PX_R {S : ih_Sg} {k j : Nat} {v : Option Nat} (h : ih_PX S) (hn : ih_pX k j = none) : ih_PX (ih_sR S k j v) := by
  intro a b i q
  show ih_u2 S.2.2 k j v a b = some i
  unfold ih_u2
  split
  · next e => rw [e.1, e.2, hn] at q; cases q
  · exact h a b i q
theorem ih_RX_p {S V : ih_Sg} {T : ih_TT} (h : ih_RX S T) (h1 : V.1 = S.1) (hp : ih_PX V) (hq : rx_p V.2.2) : ih_RX V T := by
  obtain ⟨g1, g2, g⟩ := h
  exact ⟨hp, hq, by rw [h1]; exact g⟩
theorem rx_b_6 {I : Nat → Nat → Int32} (h : rx_b I) {s a : Nat} (hs : s < 24) (ha : a < 7) : I 44 (s * 9 + a) = nI (ih_nx s a) ∧ I 45 (s * 9 + a) = nI (ih_rn s a) := by
  have q := h s hs a (by omega)
  rw [if_pos (by unfold ih_may; rw [decide_eq_true ha]; rfl), if_pos (by unfold ih_may; rw [decide_eq_true ha]; rfl)] at q
  exact q
theorem ih_sum_bd {f : Nat → Nat} {B : Nat} : ∀ {n : Nat}, (∀ a, a < n → f a ≤ B) → ih_sum f n ≤ n * B
  | 0, _ => by simp [ih_sum]
  | n + 1, h => by
    show ih_sum f n + f n ≤ (n + 1) * B
    rw [Nat.add_mul, Nat.one_mul]
    exact Nat.add_le_add (ih_sum_bd (fun a ha => h a (by omega))) (h n (by omega))
def ih_m1f (c f : Nat → Nat) (s a : Nat) : Nat := c a * (ih_rn s a * 1000000 + f (ih_nx s a))
theorem ih_m1f_le {c f : Nat → Nat} {s : Nat} (hs : s < 24) (hc : ∀ a, a < 6 → c a ≤ 1000) (hf : ∀ s, s < 25 → f s ≤ 200000000) : ih_sum (ih_m1f c f s) 6 ≤ 1300000000000 := by
  have h := ih_sum_bd (f := ih_m1f c f s) (B := 1000 * 205000000) (n := 6) (fun a ha => by
    have h3 := ih_rn_le s hs a (by omega)
    exact Nat.mul_le_mul (hc a ha) (by have := hf _ (ih_nx_le s hs a (by omega)); omega))
  omega
/-- means as they are filled, up to a standing -/
def ih_FI (Sb S : ih_Sg) (km kb : Nat) (c f : Nat → Nat) (n : Nat) : Prop := S.1 = Sb.1 ∧ S.2.2 = Sb.2.2 ∧ (∀ z, z < n → S.2.1 km z = lN (ih_sum (ih_m1f c f z) 6 / 1000)) ∧ S.2.1 km 24 = Sb.2.1 km 24 ∧ S.2.1 kb = Sb.2.1 kb
theorem ih_FI_w {Sb S : ih_Sg} {km kb : Nat} {c f : Nat → Nat} {n : Nat} (h : ih_FI Sb S km kb c f n) (hn : n < 24) (hk : kb ≠ km) : ih_FI Sb (ih_sJ S km n (lN (ih_sum (ih_m1f c f n) 6 / 1000))) km kb c f (n + 1) := by
  obtain ⟨h1, h2, h3, h4, h5⟩ := h
  refine ⟨h1, h2, fun z hz => ?_, ?_, ?_⟩
  · show ih_u2 S.2.1 km n _ km z = _
    by_cases e : z = n
    · rw [e, ih_u2_s]
    · rw [ih_u2_j e]; exact h3 z (by omega)
  · show ih_u2 S.2.1 km n _ km 24 = _
    rw [ih_u2_j (by omega)]; exact h4
  · show ih_u2 S.2.1 km n _ kb = _
    rw [ih_u2_row hk]; exact h5
set_option maxHeartbeats 4000000 in
set_option maxRecDepth 100000 in
theorem c_X2_fillMeansOf (l : Launch) (w : ih_Wd) (Sb : ih_Sg) (hp : ih_PX Sb) (hb : rx_b Sb.1) (km kb : Nat) (hmb : (km = 49 ∧ kb = 50) ∨ (km = 50 ∧ kb = 49)) (h5 : Sb.2.2 46 5 = some km) (h6 : Sb.2.2 46 6 = some kb) (k : Nat) (hk : k < 12) (c f : Nat → Nat) (hc : ∀ a, a < 6 → Sb.1 (20 + 2 * k) a = nI (c a) ∧ c a ≤ 1000) (hf : ∀ s, s < 25 → Sb.2.1 kb s = lN (f s) ∧ f s ≤ 200000000) : ih_Cv l yX2_fillMeansOf wsX2_fillMeansOf 0 w ih_shX [.ref (w.2.2 46), .ref (w.2.2 (20 + 2 * k))] Sb (fun S' => ih_FI Sb S' km kb c f 24) := by
  refine ih_bodyv (ret := none) rfl rfl (Nat.le_of_ble_eq_true rfl) ?_
  intro x A hA C
  have C : ih_Ok x w A cX2_fillMeansOf 11 RX2 wsX2_fillMeansOf (ih_rm 0) (none) := C
  show ih_Mw x w ih_shX A (ih_Qv x w ih_shX A _) 11 0 0 0 [(0, .ref (w.2.2 46)), (1, .ref (w.2.2 (20 + 2 * k)))] [] Sb
  obtain ⟨Q, hQ⟩ : ∃ Q, Q = ih_Qv x w ih_shX A (fun S' => ih_FI Sb S' km kb c f 24) := ⟨_, rfl⟩
  rw [show ih_Qv x w ih_shX A _ = Q from hQ.symm]
  have hkmd : ih_shX.1 km = 10 := by rcases hmb with ⟨rfl, rfl⟩ | ⟨rfl, rfl⟩ <;> rfl
  have hkml : ih_shX.2.1 km = 25 := by rcases hmb with ⟨rfl, rfl⟩ | ⟨rfl, rfl⟩ <;> rfl
  have hkbd : ih_shX.1 kb = 10 := by rcases hmb with ⟨rfl, rfl⟩ | ⟨rfl, rfl⟩ <;> rfl
  have hkbl : ih_shX.2.1 kb = 25 := by rcases hmb with ⟨rfl, rfl⟩ | ⟨rfl, rfl⟩ <;> rfl
  have hne : kb ≠ km := by omega
  refine s_aload_n C 0 dX2_fillMeansOf_0 rfl ?_
  refine s_getR C 2 6 h6 (by decide) rfl (by decide) rfl (fun _ h => List.mem_cons_of_mem _ (List.mem_append_left _ (List.mem_append_right _ h))) (by decide) rfl (by decide +kernel) dX2_fillMeansOf_1 ?_
  refine s_astore_n (lv' := [(2, .ref (w.2.2 kb)), (0, .ref (w.2.2 46)), (1, .ref (w.2.2 (20 + 2 * k)))]) C dX2_fillMeansOf_4 rfl (by decide) rfl ?_
  refine s_aload_n C 1 dX2_fillMeansOf_5 rfl ?_
  refine s_getR C 2 0 (hp _ _ _ rfl) (by decide) rfl (by decide) rfl (fun _ h => List.mem_cons_of_mem _ (List.mem_append_left _ (List.mem_append_right _ h))) (by decide) rfl (by decide +kernel) dX2_fillMeansOf_6 ?_
  refine s_getR C 1 0 (hp _ _ _ rfl) (by decide) rfl (by decide) rfl (fun _ h => List.mem_cons_of_mem _ (List.mem_append_right _ h)) (by decide) rfl (by decide +kernel) dX2_fillMeansOf_9 ?_
  refine s_astore_n (lv' := [(3, .ref (w.2.2 44)), (2, .ref (w.2.2 kb)), (0, .ref (w.2.2 46)), (1, .ref (w.2.2 (20 + 2 * k)))]) C dX2_fillMeansOf_12 rfl (by decide) rfl ?_
  refine s_aload_n C 2 dX2_fillMeansOf_13 rfl ?_
  refine s_getR C 2 0 (hp _ _ _ rfl) (by decide) rfl (by decide) rfl (fun _ h => List.mem_cons_of_mem _ (List.mem_append_left _ (List.mem_append_right _ h))) (by decide) rfl (by decide +kernel) dX2_fillMeansOf_14 ?_
  refine s_getR C 1 1 (hp _ _ _ rfl) (by decide) rfl (by decide) rfl (fun _ h => List.mem_cons_of_mem _ (List.mem_append_right _ h)) (by decide) rfl (by decide +kernel) dX2_fillMeansOf_17 ?_
  refine s_astore (lv' := [(4, .ref (w.2.2 45)), (3, .ref (w.2.2 44)), (2, .ref (w.2.2 kb)), (0, .ref (w.2.2 46)), (1, .ref (w.2.2 (20 + 2 * k)))]) C dX2_fillMeansOf_20 (by decide) rfl ?_
  refine s_iconst (v := nI 0) C dX2_fillMeansOf_22 (by decide) ?_
  refine s_istore (lv' := [(5, .int (nI 0)), (4, .ref (w.2.2 45)), (3, .ref (w.2.2 44)), (2, .ref (w.2.2 kb)), (0, .ref (w.2.2 46)), (1, .ref (w.2.2 (20 + 2 * k)))]) C dX2_fillMeansOf_23 (by decide) rfl ?_
  have hx_25 : ∀ S, ih_FI Sb S km kb c f (24) → ih_Mw x w ih_shX A Q 11 0 0 116 [(0, .ref (w.2.2 46))] [] S := by
    intro S hE
    rw [hQ]
    exact s_vreturn C hA dX2_fillMeansOf_116 hE
  have loop_25 : ∀ (fu s : Nat), s + fu = 24 → ∀ S, ih_FI Sb S km kb c f (s) → ih_Mw x w ih_shX A Q 11 0 0 25 [(0, .ref (w.2.2 46)), (1, .ref (w.2.2 (20 + 2 * k))), (2, .ref (w.2.2 kb)), (3, .ref (w.2.2 44)), (4, .ref (w.2.2 45)), (5, .int (nI s))] [] S := by
    intro fu
    induction fu with
    | zero =>
      intro s hse S hE
      have hs0 : s = 24 := by omega
      refine s_iload C 5 dX2_fillMeansOf_25 rfl ?_
      refine s_bipush (v := nI 24) C dX2_fillMeansOf_27 (by decide) ?_
      refine s_icmp_geN 116 C dX2_fillMeansOf_29 (by decide) (by omega) (by omega) (fun h29 => ?_) (fun h29 => ?_)
      · refine s_perm [0] rfl ?_
        subst hs0
        exact hx_25 _ hE
      · exfalso; omega
    | succ fu ih_25 =>
      intro s hse S hE
      have hsl : s < 24 := by omega
      have hs24 : s < 24 := by omega
      have hsb := ih_m1f_le (c := c) (f := f) hs24 (fun a ha => (hc a ha).2) (fun s hs => (hf s hs).2)
      refine s_iload C 5 dX2_fillMeansOf_25 rfl ?_
      refine s_bipush (v := nI 24) C dX2_fillMeansOf_27 (by decide) ?_
      refine s_icmp_geN 116 C dX2_fillMeansOf_29 (by decide) (by omega) (by omega) (fun h29 => ?_) (fun h29 => ?_)
      · exfalso; omega
      · refine s_lconst (v := lN 0) C dX2_fillMeansOf_32 rfl ?_
        refine s_lstore (lv' := [(6, .long (lN (0))), (0, .ref (w.2.2 46)), (1, .ref (w.2.2 (20 + 2 * k))), (2, .ref (w.2.2 kb)), (3, .ref (w.2.2 44)), (4, .ref (w.2.2 45)), (5, .int (nI s))]) C dX2_fillMeansOf_33 (by decide) rfl ?_
        refine s_iload C 6 dX2_fillMeansOf_35 rfl ?_
        refine s_bipush (v := nI 9) C dX2_fillMeansOf_37 (by decide) ?_
        refine s_imulN C dX2_fillMeansOf_39 ?_
        refine s_istore (lv' := [(8, .int (nI (s * 9))), (6, .long (lN (0))), (0, .ref (w.2.2 46)), (1, .ref (w.2.2 (20 + 2 * k))), (2, .ref (w.2.2 kb)), (3, .ref (w.2.2 44)), (4, .ref (w.2.2 45)), (5, .int (nI s))]) C dX2_fillMeansOf_40 (by decide) rfl ?_
        refine s_iconst (v := nI 0) C dX2_fillMeansOf_42 (by decide) ?_
        refine s_istore (lv' := [(9, .int (nI 0)), (8, .int (nI (s * 9))), (6, .long (lN (0))), (0, .ref (w.2.2 46)), (1, .ref (w.2.2 (20 + 2 * k))), (2, .ref (w.2.2 kb)), (3, .ref (w.2.2 44)), (4, .ref (w.2.2 45)), (5, .int (nI s))]) C dX2_fillMeansOf_43 (by decide) rfl ?_
        have hx_45 : ∀ S, ih_FI Sb S km kb c f s → ih_Mw x w ih_shX A Q 11 0 0 97 [(0, .ref (w.2.2 46)), (1, .ref (w.2.2 (20 + 2 * k))), (2, .ref (w.2.2 kb)), (3, .ref (w.2.2 44)), (4, .ref (w.2.2 45)), (5, .int (nI s)), (6, .long (lN (ih_sum (ih_m1f c f s) (6))))] [] S := by
          intro S hE
          refine s_aload_n C 0 dX2_fillMeansOf_97 rfl ?_
          refine s_getR C 2 5 (by rw [hE.2.1]; exact h5) (by decide) rfl (by decide) rfl (fun _ h => List.mem_cons_of_mem _ (List.mem_append_left _ (List.mem_append_right _ h))) (by decide) rfl (by decide +kernel) dX2_fillMeansOf_98 ?_
          refine s_iload C 5 dX2_fillMeansOf_101 rfl ?_
          refine s_lload C 6 dX2_fillMeansOf_103 rfl ?_
          refine s_ldc2 (v := lN 1000) C (by decide +kernel) dX2_fillMeansOf_105 ?_
          refine s_ldivN C dX2_fillMeansOf_108 (by omega) (by omega) (by omega) ?_
          refine s_lastore C 25 (s) rfl hkml (by omega) (by decide) (show km < 62 by omega) hkmd dX2_fillMeansOf_109 ?_
          refine s_iinc (u := nI (s + 1)) (lv' := [(5, .int (nI (s + 1))), (0, .ref (w.2.2 46)), (1, .ref (w.2.2 (20 + 2 * k))), (2, .ref (w.2.2 kb)), (3, .ref (w.2.2 44)), (4, .ref (w.2.2 45)), (6, .long (lN (ih_sum (ih_m1f c f s) (6))))]) C 5 dX2_fillMeansOf_110 rfl (ih_incN (by decide)) (by decide) rfl ?_
          refine s_goto C 25 dX2_fillMeansOf_113 (by decide) ?_
          refine s_perm [1, 2, 3, 4, 5, 0] rfl ?_
          exact ih_25 (s + 1) (by omega) _ (ih_FI_w hE hs24 hne)
        have loop_45 : ∀ (fu a : Nat), a + fu = 6 → ∀ S, ih_FI Sb S km kb c f s → ih_Mw x w ih_shX A Q 11 0 0 45 [(0, .ref (w.2.2 46)), (1, .ref (w.2.2 (20 + 2 * k))), (2, .ref (w.2.2 kb)), (3, .ref (w.2.2 44)), (4, .ref (w.2.2 45)), (5, .int (nI s)), (6, .long (lN (ih_sum (ih_m1f c f s) (a)))), (8, .int (nI (s * 9 + a))), (9, .int (nI a))] [] S := by
          intro fu
          induction fu with
          | zero =>
            intro a hae S hE
            have ha0 : a = 6 := by omega
            refine s_iload C 8 dX2_fillMeansOf_45 rfl ?_
            refine s_iconst (v := nI 5) C dX2_fillMeansOf_47 (by decide) ?_
            refine s_icmp_gtN 97 C dX2_fillMeansOf_48 (by decide) (by omega) (by omega) (fun h48 => ?_) (fun h48 => ?_)
            · refine s_perm [0, 1, 2, 3, 4, 5, 6] rfl ?_
              subst ha0
              exact hx_45 _ hE
            · exfalso; omega
          | succ fu ih_45 =>
            intro a hae S hE
            have hal : a < 6 := by omega
            refine s_iload C 8 dX2_fillMeansOf_45 rfl ?_
            refine s_iconst (v := nI 5) C dX2_fillMeansOf_47 (by decide) ?_
            refine s_icmp_gtN 97 C dX2_fillMeansOf_48 (by decide) (by omega) (by omega) (fun h48 => ?_) (fun h48 => ?_)
            · exfalso; omega
            · refine s_aload_n C 1 dX2_fillMeansOf_51 rfl ?_
              refine s_iload C 8 dX2_fillMeansOf_52 rfl ?_
              refine s_iaload C 6 (a) rfl (ih_lX_ch hk) (by omega) (by decide) (by show 20 + 2 * k < 62; omega) (ih_kX_ch hk) dX2_fillMeansOf_54 ?_
              refine s_toe (b := nI (c a)) ((congrFun (congrFun hE.1 _) _).trans (hc a (by omega)).1) ?_
              have hcb := (hc a (by omega)).2
              refine s_istore (lv' := [(10, .int (nI (c a))), (0, .ref (w.2.2 46)), (1, .ref (w.2.2 (20 + 2 * k))), (2, .ref (w.2.2 kb)), (3, .ref (w.2.2 44)), (4, .ref (w.2.2 45)), (5, .int (nI s)), (6, .long (lN (ih_sum (ih_m1f c f s) (a)))), (8, .int (nI (s * 9 + a))), (9, .int (nI a))]) C dX2_fillMeansOf_55 (by decide) rfl ?_
              refine s_iload C 0 dX2_fillMeansOf_57 rfl ?_
              refine s_if_leN 88 C dX2_fillMeansOf_59 (by decide) (by omega) (fun h59 => ?_) (fun h59 => ?_)
              · rw [show lN (ih_sum (ih_m1f c f s) (a)) = lN (ih_sum (ih_m1f c f s) (a + 1)) from congrArg lN (by show _ = ih_sum _ _ + ih_m1f _ _ _ _; rw [ih_m1f, show c a = 0 by omega, Nat.zero_mul, Nat.add_zero])]
                refine s_iinc (u := nI (s * 9 + a + 1)) (lv' := [(8, .int (nI (s * 9 + a + 1))), (10, .int (nI (c a))), (0, .ref (w.2.2 46)), (1, .ref (w.2.2 (20 + 2 * k))), (2, .ref (w.2.2 kb)), (3, .ref (w.2.2 44)), (4, .ref (w.2.2 45)), (5, .int (nI s)), (6, .long (lN (ih_sum (ih_m1f c f s) (a + 1)))), (9, .int (nI a))]) C 8 dX2_fillMeansOf_88 rfl (ih_incN (by decide)) (by decide) rfl ?_
                refine s_iinc (u := nI (a + 1)) (lv' := [(9, .int (nI (a + 1))), (8, .int (nI (s * 9 + a + 1))), (10, .int (nI (c a))), (0, .ref (w.2.2 46)), (1, .ref (w.2.2 (20 + 2 * k))), (2, .ref (w.2.2 kb)), (3, .ref (w.2.2 44)), (4, .ref (w.2.2 45)), (5, .int (nI s)), (6, .long (lN (ih_sum (ih_m1f c f s) (a + 1))))]) C 9 dX2_fillMeansOf_91 rfl (ih_incN (by decide)) (by decide) rfl ?_
                refine s_goto C 45 dX2_fillMeansOf_94 (by decide) ?_
                refine s_perm [3, 4, 5, 6, 7, 8, 9, 1, 0] rfl ?_
                exact ih_45 (a + 1) (by omega) _ hE
              · refine s_lload C 7 dX2_fillMeansOf_62 rfl ?_
                refine s_iload C 0 dX2_fillMeansOf_64 rfl ?_
                refine s_i2lN C dX2_fillMeansOf_66 (by omega) ?_
                refine s_aload C 5 dX2_fillMeansOf_67 rfl ?_
                refine s_iload C 8 dX2_fillMeansOf_69 rfl ?_
                refine s_iaload C 216 (s * 9 + a) rfl rfl (by omega) (by decide) (by decide) rfl dX2_fillMeansOf_71 ?_
                refine s_toe (b := nI (ih_rn s a)) ((congrFun (congrFun hE.1 _) _).trans (rx_b_6 hb hs24 (by omega)).2) ?_
                have hrn := ih_rn_le s hs24 a (by omega)
                refine s_i2lN C dX2_fillMeansOf_72 (by omega) ?_
                refine s_ldc2 (v := lN 1000000) C (by decide +kernel) dX2_fillMeansOf_73 ?_
                refine s_lmulN C dX2_fillMeansOf_76 ?_
                refine s_aload_n C 3 dX2_fillMeansOf_77 rfl ?_
                refine s_aload_n C 4 dX2_fillMeansOf_78 rfl ?_
                refine s_iload C 8 dX2_fillMeansOf_79 rfl ?_
                refine s_iaload C 216 (s * 9 + a) rfl rfl (by omega) (by decide) (by decide) rfl dX2_fillMeansOf_81 ?_
                refine s_toe (b := nI (ih_nx s a)) ((congrFun (congrFun hE.1 _) _).trans (rx_b_6 hb hs24 (by omega)).1) ?_
                have hnx := ih_nx_le s hs24 a (by omega)
                refine s_laload C 25 (ih_nx s a) rfl hkbl (by omega) (by decide) (show kb < 62 by omega) hkbd dX2_fillMeansOf_82 ?_
                refine s_tol (b := lN (f (ih_nx s a))) ((congrFun hE.2.2.2.2 _).trans (hf _ hnx).1) ?_
                refine s_laddN C dX2_fillMeansOf_83 ?_
                refine s_lmulN C dX2_fillMeansOf_84 ?_
                refine s_laddN C dX2_fillMeansOf_85 ?_
                refine s_tol (b := lN (ih_sum (ih_m1f c f s) (a + 1))) rfl ?_
                refine s_lstore (lv' := [(6, .long (lN (ih_sum (ih_m1f c f s) (a + 1)))), (10, .int (nI (c a))), (0, .ref (w.2.2 46)), (1, .ref (w.2.2 (20 + 2 * k))), (2, .ref (w.2.2 kb)), (3, .ref (w.2.2 44)), (4, .ref (w.2.2 45)), (5, .int (nI s)), (8, .int (nI (s * 9 + a))), (9, .int (nI a))]) C dX2_fillMeansOf_86 (by decide) rfl ?_
                refine s_iinc (u := nI (s * 9 + a + 1)) (lv' := [(8, .int (nI (s * 9 + a + 1))), (6, .long (lN (ih_sum (ih_m1f c f s) (a + 1)))), (10, .int (nI (c a))), (0, .ref (w.2.2 46)), (1, .ref (w.2.2 (20 + 2 * k))), (2, .ref (w.2.2 kb)), (3, .ref (w.2.2 44)), (4, .ref (w.2.2 45)), (5, .int (nI s)), (9, .int (nI a))]) C 8 dX2_fillMeansOf_88 rfl (ih_incN (by decide)) (by decide) rfl ?_
                refine s_iinc (u := nI (a + 1)) (lv' := [(9, .int (nI (a + 1))), (8, .int (nI (s * 9 + a + 1))), (6, .long (lN (ih_sum (ih_m1f c f s) (a + 1)))), (10, .int (nI (c a))), (0, .ref (w.2.2 46)), (1, .ref (w.2.2 (20 + 2 * k))), (2, .ref (w.2.2 kb)), (3, .ref (w.2.2 44)), (4, .ref (w.2.2 45)), (5, .int (nI s))]) C 9 dX2_fillMeansOf_91 rfl (ih_incN (by decide)) (by decide) rfl ?_
                refine s_goto C 45 dX2_fillMeansOf_94 (by decide) ?_
                refine s_perm [4, 5, 6, 7, 8, 9, 2, 1, 0] rfl ?_
                exact ih_45 (a + 1) (by omega) _ hE
        refine s_perm [3, 4, 5, 6, 7, 8, 2, 1, 0] rfl ?_
        exact loop_45 6 0 (by omega) _ hE
  refine s_perm [4, 5, 3, 2, 1, 0] rfl ?_
  exact loop_25 24 0 (by omega) _ ⟨rfl, rfl, fun z hz => absurd hz (Nat.not_lt_zero z), rfl, rfl⟩

set_option maxHeartbeats 4000000 in
set_option maxRecDepth 100000 in
theorem c_X2_chancesAt (l : Launch) (w : ih_Wd) (S : ih_Sg) (T : ih_TT) (hX : ih_RX S T) (hI : ih_Inv T) (hpl0 : 0 < ih_pl T) (q : Nat) (hq : q < 1000) : ih_Cr l yX2_chancesAt wsX2_chancesAt 0 w ih_shX [.ref (w.2.2 46), .int (nI q)] S (fun u => u.1 = S ∧ u.2 = 20 + 2 * ih_or T (q % ih_pl T)) := by
  refine ih_bodyr (ret := some (.array .int)) rfl rfl (Nat.le_of_ble_eq_true rfl) ?_
  intro x A hA C
  have C : ih_Ok x w A cX2_chancesAt 2 RX2 wsX2_chancesAt (ih_rm 0) (some (.array .int)) := C
  show ih_Mw x w ih_shX A (ih_Qr x w ih_shX A _) 2 0 0 0 [(0, .ref (w.2.2 46)), (1, .int (nI q))] [] S
  have hp := hX.1
  have hpl9 : ih_pl T ≤ 9 := hI.2.2.1.2.1
  have hqm := Nat.mod_lt q hpl0
  obtain ⟨kk, hkk⟩ : ∃ kk, kk = ih_or T (q % ih_pl T) := ⟨_, rfl⟩
  have hkk12 : kk < 12 := by have := (hI.2.2.1.2.2 _ hqm).2; have := hI.2.1.2.1; omega
  refine s_aload_n C 0 dX2_chancesAt_0 rfl ?_
  refine s_getR C 2 1 (hp _ _ _ rfl) (by decide) rfl (by decide) rfl (fun _ h => List.mem_cons_of_mem _ (List.mem_append_left _ (List.mem_append_right _ h))) (by decide) rfl (by decide +kernel) dX2_chancesAt_1 ?_
  refine s_aload_n C 0 dX2_chancesAt_4 rfl ?_
  refine s_getR C 2 2 (hp _ _ _ rfl) (by decide) rfl (by decide) rfl (fun _ h => List.mem_cons_of_mem _ (List.mem_append_left _ (List.mem_append_right _ h))) (by decide) rfl (by decide +kernel) dX2_chancesAt_5 ?_
  refine s_aload_n C 0 dX2_chancesAt_8 rfl ?_
  refine s_getI C 2 3 (by decide) rfl (by decide) rfl (fun _ h => List.mem_cons_of_mem _ (List.mem_append_left _ (List.mem_append_right _ h))) (by decide) rfl (by decide +kernel) dX2_chancesAt_9 ?_
  refine s_toe (ih_RX_pl hX hI) ?_
  refine s_if_leN 24 C dX2_chancesAt_12 (by decide) (by omega) (fun h12 => ?_) (fun h12 => ?_)
  · exfalso; omega
  · refine s_iload_n C 1 dX2_chancesAt_15 rfl ?_
    refine s_aload_n C 0 dX2_chancesAt_16 rfl ?_
    refine s_getI C 2 3 (by decide) rfl (by decide) rfl (fun _ h => List.mem_cons_of_mem _ (List.mem_append_left _ (List.mem_append_right _ h))) (by decide) rfl (by decide +kernel) dX2_chancesAt_17 ?_
    refine s_toe (ih_RX_pl hX hI) ?_
    refine s_iremN C dX2_chancesAt_20 (by omega) (by omega) (by omega) ?_
    refine s_goto C 25 dX2_chancesAt_21 (by decide) ?_
    refine s_iaload C 9 (q % (ih_pl T)) rfl rfl (by omega) (by decide) (by decide) rfl dX2_chancesAt_25 ?_
    refine s_toe (b := nI kk) ((hX.2.2.2.2.2.2.1.2 _ (by omega)).trans ((hI.2.2.1.2.2 _ hqm).1.trans (by rw [hkk]))) ?_
    refine s_aaload C 12 (kk) (hp _ _ _ (ih_pX_st hkk12)) rfl rfl (by omega) (by decide) (by decide) rfl (by decide) dX2_chancesAt_26 ?_
    refine s_getR C 6 0 (hp _ _ _ (ih_pX_ch hkk12)) (by show 19 + 2 * kk < 62; omega) (ih_kX_st hkk12) (by decide) rfl (fun _ h => List.mem_cons_of_mem _ (List.mem_append_right _ h)) (by decide) rfl (by decide +kernel) dX2_chancesAt_27 ?_
    exact s_areturn C hA dX2_chancesAt_30 ⟨rfl, by rw [hkk]⟩

/-- what the rows of means hold behind v strikes -/
def ih_MI (S : ih_Sg) (T : ih_TT) (km kb p n v : Nat) : Prop := ((km = 49 ∧ kb = 50) ∨ (km = 50 ∧ kb = 49)) ∧ S.2.2 46 5 = some km ∧ S.2.2 46 6 = some kb ∧ (∀ s, s < 25 → S.2.1 km s = lN (ih_mean (ih_cc T) (ih_pl T) v ((p + n - v) % ih_pl T) s)) ∧ S.2.1 kb 24 = lN 0 ∧ (0 < v → ∀ s, s < 25 → S.2.1 kb s = lN (ih_mean (ih_cc T) (ih_pl T) (v - 1) ((p + n - v + 1) % ih_pl T) s))
def ih_MIx (S : ih_Sg) (T : ih_TT) (p n v : Nat) : Prop := ih_RX S T ∧ ∃ km kb, ih_MI S T km kb p n v
/-- the two rows have changed places -/
theorem ih_RX_sw {S : ih_Sg} {T : ih_TT} (h : ih_RX S T) {km kb : Nat} (hmb : (km = 49 ∧ kb = 50) ∨ (km = 50 ∧ kb = 49)) : ih_RX (ih_sR (ih_sR S 46 6 (some km)) 46 5 (some kb)) T := by
  refine ih_RX_p h rfl (ih_PX_R (ih_PX_R h.1 rfl) rfl) ⟨?_, ?_, ?_⟩
  · rcases hmb with ⟨rfl, rfl⟩ | ⟨rfl, rfl⟩
    · exact Or.inr ⟨rfl, rfl⟩
    · exact Or.inl ⟨rfl, rfl⟩
  · exact h.2.1.2.1
  · exact h.2.1.2.2
theorem ih_MI_s {S V : ih_Sg} {T : ih_TT} {km kb p n v : Nat} (hI : ih_Inv T) (hpl0 : 0 < ih_pl T) (hv : v < n) (h : ih_MI S T km kb p n v) (hF : ih_FI (ih_sR (ih_sR S 46 6 (some km)) 46 5 (some kb)) V kb km (ih_cc T ((p + n - (v + 1)) % ih_pl T)) (ih_mean (ih_cc T) (ih_pl T) v ((p + n - v) % ih_pl T)) 24) : ih_MI V T kb km p n (v + 1) := by
  obtain ⟨h1, h2, h3, h4, h5, h6⟩ := h
  obtain ⟨f1, f2, f3, f4, f5⟩ := hF
  have e1 : ((p + n - (v + 1)) % ih_pl T + 1) % ih_pl T = (p + n - v) % ih_pl T := by
    rw [Nat.mod_add_mod]
    exact congrArg (· % ih_pl T) (by omega)
  refine ⟨by omega, by rw [f2]; rfl, by rw [f2]; rfl, fun s hs => ?_, ?_, fun _ s hs => ?_⟩
  · rcases Nat.lt_or_ge s 24 with q | q
    · rw [f3 s q, ih_mean_s q]
      refine congrArg (fun z => lN (z / 1000)) (ih_sum_congr (fun a ha => ?_))
      unfold ih_m1f ih_mf
      rw [e1]
    · obtain rfl : s = 24 := by omega
      rw [f4, ih_mean_o (by omega)]
      exact h5
  · rw [f5]
    show S.2.1 km 24 = _
    rw [h4 24 (by omega), ih_mean_o (by omega)]
  · rw [f5, show v + 1 - 1 = v by omega, show p + n - (v + 1) + 1 = p + n - v by omega]
    exact h4 s hs
theorem ih_MI_0 {S : ih_Sg} {T : ih_TT} {km kb p n : Nat} (h : ih_RX S T) (hmb : (km = 49 ∧ kb = 50) ∨ (km = 50 ∧ kb = 49)) (h5 : S.2.2 46 5 = some km) (h6 : S.2.2 46 6 = some kb) : ih_MIx (ih_fl2 (ih_fl2 S km 25 (lN 0)) kb 25 (lN 0)) T p n 0 := by
  refine ⟨ih_RX_p h rfl h.1 h.2.1, km, kb, hmb, h5, h6, fun s hs => ?_, ?_, fun q => absurd q (Nat.lt_irrefl 0)⟩
  · show (if km = kb ∧ s < 25 then lN 0 else if km = km ∧ s < 25 then lN 0 else S.2.1 km s) = lN 0
    rw [if_neg (by omega), if_pos ⟨rfl, hs⟩]
  · show (if kb = kb ∧ 24 < 25 then lN 0 else _) = lN 0
    rw [if_pos ⟨rfl, by omega⟩]
set_option maxHeartbeats 4000000 in
set_option maxRecDepth 100000 in
theorem c_X2_fillMeans (l : Launch) (w : ih_Wd) (S : ih_Sg) (T : ih_TT) (hX : ih_RX S T) (hI : ih_Inv T) (hpl0 : 0 < ih_pl T) (p n : Nat) (hpp : p < ih_pl T) (hn : n ≤ 30) : ih_Cv l yX2_fillMeans wsX2_fillMeans 1 w ih_shX [.ref (w.2.2 46), .int (nI p), .int (nI n)] S (fun S' => ih_MIx S' T p n n) := by
  refine ih_bodyv (ret := none) rfl rfl (Nat.le_of_ble_eq_true rfl) ?_
  intro x A hA C
  have C : ih_Ok x w A cX2_fillMeans 5 RX2 wsX2_fillMeans (ih_rm 1) (none) := C
  show ih_Mw x w ih_shX A (ih_Qv x w ih_shX A _) 5 0 0 0 [(0, .ref (w.2.2 46)), (1, .int (nI p)), (2, .int (nI n))] [] S
  obtain ⟨Q, hQ⟩ : ∃ Q, Q = ih_Qv x w ih_shX A (fun S' => ih_MIx S' T p n n) := ⟨_, rfl⟩
  rw [show ih_Qv x w ih_shX A _ = Q from hQ.symm]
  have hpl9 : ih_pl T ≤ 9 := hI.2.2.1.2.1
  have hct : ih_ct T ≤ 12 := hI.2.1.2.1
  have hok := ih_cc_ok hI
  obtain ⟨km, kb, hmb, h5, h6⟩ : ∃ km kb, ((km = 49 ∧ kb = 50) ∨ (km = 50 ∧ kb = 49)) ∧ S.2.2 46 5 = some km ∧ S.2.2 46 6 = some kb := by
    rcases hX.2.1.1 with q | q
    · exact ⟨49, 50, Or.inl ⟨rfl, rfl⟩, q⟩
    · exact ⟨50, 49, Or.inr ⟨rfl, rfl⟩, q⟩
  have hkmd : ih_shX.1 km = 10 := by rcases hmb with ⟨rfl, rfl⟩ | ⟨rfl, rfl⟩ <;> rfl
  have hkml : ih_shX.2.1 km = 25 := by rcases hmb with ⟨rfl, rfl⟩ | ⟨rfl, rfl⟩ <;> rfl
  have hkbd : ih_shX.1 kb = 10 := by rcases hmb with ⟨rfl, rfl⟩ | ⟨rfl, rfl⟩ <;> rfl
  have hkbl : ih_shX.2.1 kb = 25 := by rcases hmb with ⟨rfl, rfl⟩ | ⟨rfl, rfl⟩ <;> rfl
  have hne : kb ≠ km := by omega
  refine s_aload_n C 0 dX2_fillMeans_0 rfl ?_
  refine s_getR C 2 5 h5 (by decide) rfl (by decide) rfl (fun _ h => List.mem_cons_of_mem _ (List.mem_append_left _ (List.mem_append_left _ (List.mem_append_right _ h)))) (by decide) rfl (by decide +kernel) dX2_fillMeans_1 ?_
  refine s_lconst (v := lN 0) C dX2_fillMeans_4 rfl ?_
  refine s_callSv 2 C (c_fillL _ w _ km 25 (by omega) hkmd hkml (by decide) _) gX2_fillMeans_J7_fill_d0a16 rfl (by decide +kernel) (by decide) (by decide) rfl rfl (Nat.le_of_ble_eq_true rfl) dX2_fillMeans_5 ?_
  rintro S6 hS6
  refine s_aload_n C 0 dX2_fillMeans_8 rfl ?_
  refine s_getR C 2 6 (by rw [hS6]; exact h6) (by decide) rfl (by decide) rfl (fun _ h => List.mem_cons_of_mem _ (List.mem_append_left _ (List.mem_append_left _ (List.mem_append_right _ h)))) (by decide) rfl (by decide +kernel) dX2_fillMeans_9 ?_
  refine s_lconst (v := lN 0) C dX2_fillMeans_12 rfl ?_
  refine s_callSv 2 C (c_fillL _ w _ kb 25 (by omega) hkbd hkbl (by decide) _) gX2_fillMeans_J7_fill_d0a16 rfl (by decide +kernel) (by decide) (by decide) rfl rfl (Nat.le_of_ble_eq_true rfl) dX2_fillMeans_13 ?_
  rintro S7 hS7
  refine s_iconst (v := nI 1) C dX2_fillMeans_16 (by decide) ?_
  refine s_istore_n (lv' := [(3, .int (nI 1)), (0, .ref (w.2.2 46)), (1, .int (nI p)), (2, .int (nI n))]) C dX2_fillMeans_17 rfl (by decide) rfl ?_
  have hx_18 : ∀ S, ih_MIx S T p n (n) → ih_Mw x w ih_shX A Q 5 0 0 62 [(0, .ref (w.2.2 46)), (1, .int (nI p)), (2, .int (nI n)), (3, .int (nI (n + 1)))] [] S := by
    intro S hE
    rw [hQ]
    exact s_vreturn C hA dX2_fillMeans_62 hE
  have loop_18 : ∀ (fu v : Nat), v + fu = n → ∀ S, ih_MIx S T p n (v) → ih_Mw x w ih_shX A Q 5 0 0 18 [(0, .ref (w.2.2 46)), (1, .int (nI p)), (2, .int (nI n)), (3, .int (nI (v + 1)))] [] S := by
    intro fu
    induction fu with
    | zero =>
      intro v hve S hE
      have hv0 : v = n := by omega
      refine s_iload_n C 3 dX2_fillMeans_18 rfl ?_
      refine s_iload_n C 2 dX2_fillMeans_19 rfl ?_
      refine s_icmp_gtN 62 C dX2_fillMeans_20 (by decide) (by omega) (by omega) (fun h20 => ?_) (fun h20 => ?_)
      · subst hv0
        exact hx_18 _ hE
      · exfalso; omega
    | succ fu ih_18 =>
      intro v hve S hE
      have hvl : v < n := by omega
      obtain ⟨km, kb, hM⟩ := hE.2
      have hor : ih_or T ((p + n - (v + 1)) % ih_pl T) < ih_ct T := (hI.2.2.1.2.2 _ (Nat.mod_lt _ hpl0)).2
      have hor12 : ih_or T ((p + n - (v + 1)) % ih_pl T) < 12 := by omega
      refine s_iload_n C 3 dX2_fillMeans_18 rfl ?_
      refine s_iload_n C 2 dX2_fillMeans_19 rfl ?_
      refine s_icmp_gtN 62 C dX2_fillMeans_20 (by decide) (by omega) (by omega) (fun h20 => ?_) (fun h20 => ?_)
      · exfalso; omega
      · refine s_aload_n C 0 dX2_fillMeans_23 rfl ?_
        refine s_getR C 2 6 hM.2.2.1 (by decide) rfl (by decide) rfl (fun _ h => List.mem_cons_of_mem _ (List.mem_append_left _ (List.mem_append_left _ (List.mem_append_right _ h)))) (by decide) rfl (by decide +kernel) dX2_fillMeans_24 ?_
        refine s_astore (lv' := [(4, .ref (w.2.2 kb)), (0, .ref (w.2.2 46)), (1, .int (nI p)), (2, .int (nI n)), (3, .int (nI (v + 1)))]) C dX2_fillMeans_27 (by decide) rfl ?_
        refine s_aload_n C 1 dX2_fillMeans_29 rfl ?_
        refine s_aload_n C 1 dX2_fillMeans_30 rfl ?_
        refine s_getR C 2 5 hM.2.1 (by decide) rfl (by decide) rfl (fun _ h => List.mem_cons_of_mem _ (List.mem_append_left _ (List.mem_append_left _ (List.mem_append_right _ h)))) (by decide) rfl (by decide +kernel) dX2_fillMeans_31 ?_
        refine s_putR (ty := .array .long) C 2 6 tyX2 tyX2_ok nmX2 (by decide) rfl (by decide) rfl (fun _ h => List.mem_cons_of_mem _ (List.mem_append_left _ (List.mem_append_left _ (List.mem_append_right _ h)))) (by decide) rfl (by decide +kernel) rfl (by decide +kernel) rfl rfl dX2_fillMeans_34 ?_
        refine s_aload_n C 1 dX2_fillMeans_37 rfl ?_
        refine s_aload C 0 dX2_fillMeans_38 rfl ?_
        refine s_putR (ty := .array .long) C 2 5 tyX2 tyX2_ok nmX2 (by decide) rfl (by decide) rfl (fun _ h => List.mem_cons_of_mem _ (List.mem_append_left _ (List.mem_append_left _ (List.mem_append_right _ h)))) (by decide) rfl (by decide +kernel) rfl (by decide +kernel) rfl rfl dX2_fillMeans_40 ?_
        refine s_aload_n C 1 dX2_fillMeans_43 rfl ?_
        refine s_aload_n C 1 dX2_fillMeans_44 rfl ?_
        refine s_iload_n C 2 dX2_fillMeans_45 rfl ?_
        refine s_iload_n C 3 dX2_fillMeans_46 rfl ?_
        refine s_iaddN C dX2_fillMeans_47 ?_
        refine s_iload_n C 4 dX2_fillMeans_48 rfl ?_
        refine s_isubN C dX2_fillMeans_49 (by omega) ?_
        refine s_callVr 1 C (c_X2_chancesAt _ w _ T (ih_RX_sw hE.1 hM.1) hI hpl0 (p + n - (v + 1)) (by omega)) gX2_fillMeans_X2_chancesAt rfl (by decide +kernel) (by decide) (by decide) (by decide) rfl (by decide) rfl rfl rfl (Nat.le_of_ble_eq_true rfl) dX2_fillMeans_50 ?_
        rintro S9 i9 ⟨hS9, hi9⟩
        obtain rfl := hS9
        obtain rfl := hi9
        refine s_callVv 1 C (c_X2_fillMeansOf _ w _ (ih_RX_sw hE.1 hM.1).1 (ih_RX_sw hE.1 hM.1).2.2.2.2.2.2.2.2.2.1 kb km (by have := hM.1; omega) rfl rfl _ hor12 (ih_cc T ((p + n - (v + 1)) % ih_pl T)) (ih_mean (ih_cc T) (ih_pl T) v ((p + n - v) % ih_pl T)) (ih_RX_c (ih_RX_sw hE.1 hM.1) hI hor) (fun s hs => ⟨hM.2.2.2.1 s hs, by have := ih_mean_le hpl0 hok v ((p + n - v) % ih_pl T) s (Nat.mod_lt _ hpl0); omega⟩)) gX2_fillMeans_X2_fillMeansOf rfl (by decide +kernel) (by decide) (by decide) (by decide) rfl (by decide) rfl rfl rfl (Nat.le_of_ble_eq_true rfl) dX2_fillMeans_53 ?_
        rintro S8 hF
        refine s_iinc (u := nI (v + 1 + 1)) (lv' := [(3, .int (nI (v + 1 + 1))), (4, .ref (w.2.2 kb)), (0, .ref (w.2.2 46)), (1, .int (nI p)), (2, .int (nI n))]) C 4 dX2_fillMeans_56 rfl (ih_incN (by decide)) (by decide) rfl ?_
        refine s_goto C 18 dX2_fillMeans_59 (by decide) ?_
        refine s_perm [2, 3, 4, 0] rfl ?_
        exact ih_18 (v + 1) (by omega) _ ⟨ih_RX_p (ih_RX_sw hE.1 hM.1) hF.1 (fun a b i q => by rw [hF.2.1]; exact (ih_RX_sw hE.1 hM.1).1 a b i q) (by rw [hF.2.1]; exact (ih_RX_sw hE.1 hM.1).2.1), kb, km, ih_MI_s hI hpl0 (by omega) hM hF⟩
  refine s_perm [1, 2, 3, 0] rfl ?_
  rw [hS7, hS6]
  exact loop_18 n 0 (by omega) _ (ih_MI_0 hX hmb h5 h6)

set_option maxHeartbeats 4000000 in
set_option maxRecDepth 100000 in
theorem c_X2_meanFrom (l : Launch) (w : ih_Wd) (S : ih_Sg) (T : ih_TT) (hX : ih_RX S T) (hI : ih_Inv T) (hpl0 : 0 < ih_pl T) (s p n : Nat) (hs : s < 25) (hpp : p < ih_pl T) (hn : n ≤ 30) : ih_Ci l yX2_meanFrom wsX2_meanFrom 2 w ih_shX [.ref (w.2.2 46), .int (nI s), .int (nI p), .int (nI n)] S (fun r S' => r = nI (ih_mean (ih_cc T) (ih_pl T) n p s) ∧ ih_RX S' T) := by
  refine ih_bodyi (ret := some .int) rfl rfl (Nat.le_of_ble_eq_true rfl) ?_
  intro x A hA C
  have C : ih_Ok x w A cX2_meanFrom 4 RX2 wsX2_meanFrom (ih_rm 2) (some .int) := C
  show ih_Mw x w ih_shX A (ih_Qi x w ih_shX A _) 4 0 0 0 [(0, .ref (w.2.2 46)), (1, .int (nI s)), (2, .int (nI p)), (3, .int (nI n))] [] S
  have hpl9 : ih_pl T ≤ 9 := hI.2.2.1.2.1
  refine s_aload_n C 0 dX2_meanFrom_0 rfl ?_
  refine s_iload_n C 2 dX2_meanFrom_1 rfl ?_
  refine s_iload_n C 3 dX2_meanFrom_2 rfl ?_
  refine s_callVv 2 C (c_X2_fillMeans _ w _ T hX hI hpl0 p n hpp hn) gX2_meanFrom_X2_fillMeans rfl (by decide +kernel) (by decide) (by decide) (by decide) rfl (by decide) rfl rfl rfl (Nat.le_of_ble_eq_true rfl) dX2_meanFrom_3 ?_
  rintro S5 hE
  obtain ⟨hX5, km, kb, hmb, h5, h6, hm, hz, hb⟩ := hE
  rw [show p + n - n = p by omega, Nat.mod_eq_of_lt hpp] at hm
  have hkmd : ih_shX.1 km = 10 := by rcases hmb with ⟨rfl, rfl⟩ | ⟨rfl, rfl⟩ <;> rfl
  have hkml : ih_shX.2.1 km = 25 := by rcases hmb with ⟨rfl, rfl⟩ | ⟨rfl, rfl⟩ <;> rfl
  have hkbd : ih_shX.1 kb = 10 := by rcases hmb with ⟨rfl, rfl⟩ | ⟨rfl, rfl⟩ <;> rfl
  have hkbl : ih_shX.2.1 kb = 25 := by rcases hmb with ⟨rfl, rfl⟩ | ⟨rfl, rfl⟩ <;> rfl
  have hne : kb ≠ km := by omega
  refine s_aload_n C 0 dX2_meanFrom_6 rfl ?_
  refine s_getR C 2 5 h5 (by decide) rfl (by decide) rfl (fun _ h => List.mem_cons_of_mem _ (List.mem_append_left _ (List.mem_append_left _ (List.mem_append_right _ h)))) (by decide) rfl (by decide +kernel) dX2_meanFrom_7 ?_
  refine s_iload_n C 1 dX2_meanFrom_10 rfl ?_
  refine s_laload C 25 (s) rfl hkml (by omega) (by decide) (show km < 62 by omega) hkmd dX2_meanFrom_11 ?_
  refine s_tol (hm s hs) ?_
  refine s_l2iN C dX2_meanFrom_12 ?_
  exact s_ireturn C hA dX2_meanFrom_13 ⟨rfl, hX5⟩

set_option maxHeartbeats 4000000 in
set_option maxRecDepth 100000 in
theorem c_X2_rateNow (l : Launch) (w : ih_Wd) (S : ih_Sg) (T : ih_TT) (hX : ih_RX S T) (hI : ih_Inv T) (hpl0 : 0 < ih_pl T) : ih_Ci l yX2_rateNow wsX2_rateNow 3 w ih_shX [.ref (w.2.2 46)] S (fun r S' => r = nI (ih_rt T) ∧ ih_RX S' T) := by
  refine ih_bodyi (ret := some .int) rfl rfl (Nat.le_of_ble_eq_true rfl) ?_
  intro x A hA C
  have C : ih_Ok x w A cX2_rateNow 1 RX2 wsX2_rateNow (ih_rm 3) (some .int) := C
  show ih_Mw x w ih_shX A (ih_Qi x w ih_shX A _) 1 0 0 0 [(0, .ref (w.2.2 46))] [] S
  have hpl9 : ih_pl T ≤ 9 := hI.2.2.1.2.1
  refine s_aload_n C 0 dX2_rateNow_0 rfl ?_
  refine s_iconst (v := nI 0) C dX2_rateNow_1 (by decide) ?_
  refine s_iconst (v := nI 0) C dX2_rateNow_2 (by decide) ?_
  refine s_bipush (v := nI 30) C dX2_rateNow_3 (by decide) ?_
  refine s_callVi 3 C (c_X2_meanFrom _ w _ T hX hI hpl0 0 0 30 (by decide) (by omega) (by decide)) gX2_rateNow_X2_meanFrom rfl (by decide +kernel) (by decide) (by decide) (by decide) rfl (by decide) rfl rfl rfl (Nat.le_of_ble_eq_true rfl) dX2_rateNow_5 ?_
  rintro rr S ⟨hrr, hX⟩
  subst hrr
  refine s_aload_n C 0 dX2_rateNow_8 rfl ?_
  refine s_iconst (v := nI 0) C dX2_rateNow_9 (by decide) ?_
  refine s_aload_n C 0 dX2_rateNow_10 rfl ?_
  refine s_getI C 2 3 (by decide) rfl (by decide) rfl (fun _ h => List.mem_cons_of_mem _ (List.mem_append_left _ (List.mem_append_left _ (List.mem_append_right _ h)))) (by decide) rfl (by decide +kernel) dX2_rateNow_11 ?_
  refine s_toe (ih_RX_pl hX hI) ?_
  refine s_iconst (v := nI 2) C dX2_rateNow_14 (by decide) ?_
  refine s_idivN C dX2_rateNow_15 (by omega) (by omega) (by omega) ?_
  refine s_bipush (v := nI 30) C dX2_rateNow_16 (by decide) ?_
  refine s_callVi 3 C (c_X2_meanFrom _ w _ T hX hI hpl0 0 (ih_pl T / 2) 30 (by decide) (by omega) (by decide)) gX2_rateNow_X2_meanFrom rfl (by decide +kernel) (by decide) (by decide) (by decide) rfl (by decide) rfl rfl rfl (Nat.le_of_ble_eq_true rfl) dX2_rateNow_18 ?_
  rintro rr S ⟨hrr, hX⟩
  subst hrr
  refine s_iaddN C dX2_rateNow_21 ?_
  exact s_ireturn C hA dX2_rateNow_22 ⟨rfl, hX⟩

set_option maxHeartbeats 4000000 in
set_option maxRecDepth 100000 in
theorem c_X7_mean (l : Launch) (w : ih_Wd) (S : ih_Sg) (T : ih_TT) (hX : ih_RX S T) (hI : ih_Inv T) (s p n : Int32) : ih_Ci l yX7_mean wsX7_mean 3 w ih_shX [.ref (w.2.2 0), .int s, .int p, .int n] S (fun r S' => r = sp_mean T s p n ∧ ih_RX S' T) := by
  refine ih_bodyi (ret := some .int) rfl rfl (Nat.le_of_ble_eq_true rfl) ?_
  intro x A hA C
  have C : ih_Ok x w A cX7_mean 4 RX7 wsX7_mean (ih_rm 3) (some .int) := C
  show ih_Mw x w ih_shX A (ih_Qi x w ih_shX A _) 4 0 0 0 [(0, .ref (w.2.2 0)), (1, .int s), (2, .int p), (3, .int n)] [] S
  have hct : ih_ct T ≤ 12 := hI.2.1.2.1
  have hp := hX.1
  have hpl9 : ih_pl T ≤ 9 := hI.2.2.1.2.1
  refine s_iload_n C 1 dX7_mean_0 rfl ?_
  refine s_iconst (v := nI 0) C dX7_mean_1 (by decide) ?_
  refine s_bipush (v := nI 24) C dX7_mean_2 (by decide) ?_
  refine s_callSi 3 C (c_X7_within _ w _ _ _ _ _) gX7_mean_X7_within rfl (by decide +kernel) (by decide) (by decide) rfl rfl (Nat.le_of_ble_eq_true rfl) dX7_mean_4 ?_
  rintro rw4 S2 ⟨hrw4, hSS⟩
  obtain rfl := hSS.symm
  rw [ih_t (by decide), ih_t (by decide)] at hrw4
  refine s_if_eq C 28 dX7_mean_7 (by decide) (fun h7 => ?_) (fun h7 => ?_)
  · replace h7 := ih_b0 hrw4 h7
    refine s_ldc (v := (-1000001)) C (by decide +kernel) dX7_mean_28 ?_
    exact s_ireturn C hA dX7_mean_30 (by rw [sp_mean, if_neg (by omega)]; exact ⟨rfl, hX⟩)
  · replace h7 := ih_b1 hrw4 h7
    refine s_aload_n C 0 dX7_mean_10 rfl ?_
    refine s_iload_n C 2 dX7_mean_11 rfl ?_
    refine s_callVi 1 C (c_X7_isPlace _ w _ hp (ih_pl T) (by omega) (ih_RX_pl hX hI) _) gX7_mean_X7_isPlace rfl (by decide +kernel) (by decide) (by decide) (by decide) rfl (by decide) rfl rfl rfl (Nat.le_of_ble_eq_true rfl) dX7_mean_12 ?_
    rintro rp12 S2 ⟨hrp12, hSS⟩
    obtain rfl := hSS.symm
    refine s_if_eq C 28 dX7_mean_15 (by decide) (fun h15 => ?_) (fun h15 => ?_)
    · replace h15 := ih_b0 hrp12 h15
      refine s_ldc (v := (-1000001)) C (by decide +kernel) dX7_mean_28 ?_
      exact s_ireturn C hA dX7_mean_30 (by rw [sp_mean, if_neg (by omega)]; exact ⟨rfl, hX⟩)
    · replace h15 := ih_b1 hrp12 h15
      refine s_iload_n C 3 dX7_mean_18 rfl ?_
      refine s_iconst (v := nI 0) C dX7_mean_19 (by decide) ?_
      refine s_bipush (v := nI 30) C dX7_mean_20 (by decide) ?_
      refine s_callSi 3 C (c_X7_within _ w _ _ _ _ _) gX7_mean_X7_within rfl (by decide +kernel) (by decide) (by decide) rfl rfl (Nat.le_of_ble_eq_true rfl) dX7_mean_22 ?_
      rintro rw22 S2 ⟨hrw22, hSS⟩
      obtain rfl := hSS.symm
      rw [ih_t (by decide), ih_t (by decide)] at hrw22
      refine s_if_ne C 31 dX7_mean_25 (by decide) (fun h25 => ?_) (fun h25 => ?_)
      · replace h25 := ih_b1 hrw22 h25
        obtain ⟨sn, hsn, rfl, hsnt⟩ := ih_nat (a := s) h7.1
        obtain ⟨pn, hpn, rfl, hpnt⟩ := ih_nat (a := p) h15.1
        obtain ⟨nn, hnn, rfl, hnnt⟩ := ih_nat (a := n) h25.1
        refine s_aload_n C 0 dX7_mean_31 rfl ?_
        refine s_getR C 7 4 (hp _ _ _ rfl) (by decide) rfl (by decide) rfl (fun _ h => List.mem_cons_of_mem _ (List.mem_append_left _ (List.mem_append_left _ (List.mem_append_left _ (List.mem_append_right _ h))))) (by decide) rfl (by decide +kernel) dX7_mean_32 ?_
        refine s_iload_n C 1 dX7_mean_35 rfl ?_
        refine s_iload_n C 2 dX7_mean_36 rfl ?_
        refine s_iload_n C 3 dX7_mean_37 rfl ?_
        refine s_callVi 3 C (c_X2_meanFrom _ w _ T hX hI (by omega) sn pn nn (by omega) (by omega) (by omega)) gX7_mean_X2_meanFrom rfl (by decide +kernel) (by decide) (by decide) (by decide) rfl (by decide) rfl rfl rfl (Nat.le_of_ble_eq_true rfl) dX7_mean_38 ?_
        rintro rr S ⟨hrr, hX⟩
        exact s_ireturn C hA dX7_mean_41 (by rw [sp_mean, if_pos (by omega), ih_n_nI hsn, ih_n_nI hpn, ih_n_nI hnn]; exact ⟨hrr, hX⟩)
      · replace h25 := ih_b0 hrw22 h25
        refine s_ldc (v := (-1000001)) C (by decide +kernel) dX7_mean_28 ?_
        exact s_ireturn C hA dX7_mean_30 (by rw [sp_mean, if_neg (by omega)]; exact ⟨rfl, hX⟩)

set_option maxHeartbeats 4000000 in
set_option maxRecDepth 100000 in
theorem c_X7_rate (l : Launch) (w : ih_Wd) (S : ih_Sg) (T : ih_TT) (hX : ih_RX S T) (hI : ih_Inv T) : ih_Ci l yX7_rate wsX7_rate 4 w ih_shX [.ref (w.2.2 0)] S (fun r S' => r = sp_rate T ∧ ih_RX S' T) := by
  refine ih_bodyi (ret := some .int) rfl rfl (Nat.le_of_ble_eq_true rfl) ?_
  intro x A hA C
  have C : ih_Ok x w A cX7_rate 1 RX7 wsX7_rate (ih_rm 4) (some .int) := C
  show ih_Mw x w ih_shX A (ih_Qi x w ih_shX A _) 1 0 0 0 [(0, .ref (w.2.2 0))] [] S
  have hct : ih_ct T ≤ 12 := hI.2.1.2.1
  have hp := hX.1
  have hpl9 : ih_pl T ≤ 9 := hI.2.2.1.2.1
  refine s_aload_n C 0 dX7_rate_0 rfl ?_
  refine s_getR C 7 4 (hp _ _ _ rfl) (by decide) rfl (by decide) rfl (fun _ h => List.mem_cons_of_mem _ (List.mem_append_left _ (List.mem_append_left _ (List.mem_append_left _ (List.mem_append_right _ h))))) (by decide) rfl (by decide +kernel) dX7_rate_1 ?_
  refine s_getI C 2 3 (by decide) rfl (by decide) rfl (fun _ h => List.mem_cons_of_mem _ (List.mem_append_left _ (List.mem_append_left _ (List.mem_append_right _ h)))) (by decide) rfl (by decide +kernel) dX7_rate_4 ?_
  refine s_toe (ih_RX_pl hX hI) ?_
  refine s_if_neN 13 C dX7_rate_7 (by decide) (by omega) (fun h7 => ?_) (fun h7 => ?_)
  · refine s_aload_n C 0 dX7_rate_13 rfl ?_
    refine s_getR C 7 4 (hp _ _ _ rfl) (by decide) rfl (by decide) rfl (fun _ h => List.mem_cons_of_mem _ (List.mem_append_left _ (List.mem_append_left _ (List.mem_append_left _ (List.mem_append_right _ h))))) (by decide) rfl (by decide +kernel) dX7_rate_14 ?_
    refine s_callVi 0 C (c_X2_rateNow _ w _ T hX hI (by omega)) gX7_rate_X2_rateNow rfl (by decide +kernel) (by decide) (by decide) (by decide) rfl (by decide) rfl rfl rfl (Nat.le_of_ble_eq_true rfl) dX7_rate_17 ?_
    rintro rr S ⟨hrr, hX⟩
    exact s_ireturn C hA dX7_rate_20 (by rw [sp_rate, if_neg (by omega)]; exact ⟨hrr, hX⟩)
  · refine s_ldc (v := (-1000002)) C (by decide +kernel) dX7_rate_10 ?_
    exact s_ireturn C hA dX7_rate_12 (by rw [sp_rate, if_pos (by omega)]; exact ⟨rfl, hX⟩)

set_option maxHeartbeats 4000000 in
set_option maxRecDepth 100000 in
theorem c_X2_worthOf (l : Launch) (w : ih_Wd) (S : ih_Sg) (T : ih_TT) (hX : ih_RX S T) (hI : ih_Inv T) (hpl0 : 0 < ih_pl T) (s a p n : Nat) (hs : s < 24) (ha : a < 7) (hpp : p < ih_pl T) (hn : n ≤ 30) (hn0 : 0 < n) : ih_Ci l yX2_worthOf wsX2_worthOf 2 w ih_shX [.ref (w.2.2 46), .int (nI s), .int (nI a), .int (nI p), .int (nI n)] S (fun r S' => r = nI (ih_rn s a * 1000000 + ih_mean (ih_cc T) (ih_pl T) (n - 1) ((p + 1) % ih_pl T) (ih_nx s a)) - nI (ih_mean (ih_cc T) (ih_pl T) n p s) ∧ ih_RX S' T) := by
  refine ih_bodyi (ret := some .int) rfl rfl (Nat.le_of_ble_eq_true rfl) ?_
  intro x A hA C
  have C : ih_Ok x w A cX2_worthOf 7 RX2 wsX2_worthOf (ih_rm 2) (some .int) := C
  show ih_Mw x w ih_shX A (ih_Qi x w ih_shX A _) 7 0 0 0 [(0, .ref (w.2.2 46)), (1, .int (nI s)), (2, .int (nI a)), (3, .int (nI p)), (4, .int (nI n))] [] S
  have hpl9 : ih_pl T ≤ 9 := hI.2.2.1.2.1
  refine s_aload_n C 0 dX2_worthOf_0 rfl ?_
  refine s_iload_n C 3 dX2_worthOf_1 rfl ?_
  refine s_iload C 4 dX2_worthOf_2 rfl ?_
  refine s_callVv 2 C (c_X2_fillMeans _ w _ T hX hI hpl0 p n hpp hn) gX2_worthOf_X2_fillMeans rfl (by decide +kernel) (by decide) (by decide) (by decide) rfl (by decide) rfl rfl rfl (Nat.le_of_ble_eq_true rfl) dX2_worthOf_4 ?_
  rintro S5 hE
  obtain ⟨hX5, km, kb, hmb, h5, h6, hm, hz, hb⟩ := hE
  rw [show p + n - n = p by omega, Nat.mod_eq_of_lt hpp] at hm
  have hkmd : ih_shX.1 km = 10 := by rcases hmb with ⟨rfl, rfl⟩ | ⟨rfl, rfl⟩ <;> rfl
  have hkml : ih_shX.2.1 km = 25 := by rcases hmb with ⟨rfl, rfl⟩ | ⟨rfl, rfl⟩ <;> rfl
  have hkbd : ih_shX.1 kb = 10 := by rcases hmb with ⟨rfl, rfl⟩ | ⟨rfl, rfl⟩ <;> rfl
  have hkbl : ih_shX.2.1 kb = 25 := by rcases hmb with ⟨rfl, rfl⟩ | ⟨rfl, rfl⟩ <;> rfl
  have hne : kb ≠ km := by omega
  replace hb := hb hn0
  rw [show p + n - n + 1 = p + 1 by omega] at hb
  refine s_aload_n C 0 dX2_worthOf_7 rfl ?_
  refine s_getR C 2 6 h6 (by decide) rfl (by decide) rfl (fun _ h => List.mem_cons_of_mem _ (List.mem_append_left _ (List.mem_append_left _ (List.mem_append_right _ h)))) (by decide) rfl (by decide +kernel) dX2_worthOf_8 ?_
  refine s_aload_n C 0 dX2_worthOf_11 rfl ?_
  refine s_getR C 2 0 (hX5.1 _ _ _ rfl) (by decide) rfl (by decide) rfl (fun _ h => List.mem_cons_of_mem _ (List.mem_append_left _ (List.mem_append_left _ (List.mem_append_right _ h)))) (by decide) rfl (by decide +kernel) dX2_worthOf_12 ?_
  refine s_iload_n C 1 dX2_worthOf_15 rfl ?_
  refine s_iload_n C 2 dX2_worthOf_16 rfl ?_
  refine s_callVi 2 C (c_X1_standingAfter _ w _ hX5.1 s a (by omega) (by omega)) gX2_worthOf_X1_standingAfter rfl (by decide +kernel) (by decide) (by decide) (by decide) rfl (by decide) rfl rfl rfl (Nat.le_of_ble_eq_true rfl) dX2_worthOf_17 ?_
  rintro ra S2 ⟨hra, hSS⟩
  obtain rfl := hSS.symm
  rw [(rx_b_6 hX5.2.2.2.2.2.2.2.2.2.1 hs ha).1] at hra
  subst hra
  have hnx := ih_nx_le s hs a (by omega)
  refine s_laload C 25 (ih_nx s a) rfl hkbl (by omega) (by decide) (show kb < 62 by omega) hkbd dX2_worthOf_20 ?_
  refine s_tol (hb _ hnx) ?_
  refine s_lstore (lv' := [(5, .long (lN (ih_mean (ih_cc T) (ih_pl T) (n - 1) ((p + 1) % ih_pl T) (ih_nx s a)))), (0, .ref (w.2.2 46)), (1, .int (nI s)), (2, .int (nI a)), (3, .int (nI p)), (4, .int (nI n))]) C dX2_worthOf_21 (by decide) rfl ?_
  refine s_aload_n C 1 dX2_worthOf_23 rfl ?_
  refine s_getR C 2 0 (hX5.1 _ _ _ rfl) (by decide) rfl (by decide) rfl (fun _ h => List.mem_cons_of_mem _ (List.mem_append_left _ (List.mem_append_left _ (List.mem_append_right _ h)))) (by decide) rfl (by decide +kernel) dX2_worthOf_24 ?_
  refine s_iload_n C 2 dX2_worthOf_27 rfl ?_
  refine s_iload_n C 3 dX2_worthOf_28 rfl ?_
  refine s_callVi 2 C (c_X1_runsOf _ w _ hX5.1 s a (by omega) (by omega)) gX2_worthOf_X1_runsOf rfl (by decide +kernel) (by decide) (by decide) (by decide) rfl (by decide) rfl rfl rfl (Nat.le_of_ble_eq_true rfl) dX2_worthOf_29 ?_
  rintro rb S2 ⟨hrb, hSS⟩
  obtain rfl := hSS.symm
  rw [(rx_b_6 hX5.2.2.2.2.2.2.2.2.2.1 hs ha).2] at hrb
  subst hrb
  have hrn := ih_rn_le s hs a (by omega)
  refine s_i2lN C dX2_worthOf_32 (by omega) ?_
  refine s_ldc2 (v := lN 1000000) C (by decide +kernel) dX2_worthOf_33 ?_
  refine s_lmulN C dX2_worthOf_36 ?_
  refine s_lload C 0 dX2_worthOf_37 rfl ?_
  refine s_laddN C dX2_worthOf_39 ?_
  refine s_aload_n C 1 dX2_worthOf_40 rfl ?_
  refine s_getR C 2 5 h5 (by decide) rfl (by decide) rfl (fun _ h => List.mem_cons_of_mem _ (List.mem_append_left _ (List.mem_append_left _ (List.mem_append_right _ h)))) (by decide) rfl (by decide +kernel) dX2_worthOf_41 ?_
  refine s_iload_n C 2 dX2_worthOf_44 rfl ?_
  refine s_laload C 25 (s) rfl hkml (by omega) (by decide) (show km < 62 by omega) hkmd dX2_worthOf_45 ?_
  refine s_tol (hm s (by omega)) ?_
  refine s_lsub C dX2_worthOf_46  ?_
  refine s_l2i C dX2_worthOf_47 ?_
  exact s_ireturn C hA dX2_worthOf_48 ⟨by rw [Int64.toInt32_sub, lN_i, lN_i], hX5⟩

set_option maxHeartbeats 4000000 in
set_option maxRecDepth 100000 in
theorem c_X7_worth (l : Launch) (w : ih_Wd) (S : ih_Sg) (T : ih_TT) (hX : ih_RX S T) (hI : ih_Inv T) (s a p n : Int32) : ih_Ci l yX7_worth wsX7_worth 3 w ih_shX [.ref (w.2.2 0), .int s, .int a, .int p, .int n] S (fun r S' => r = sp_worth T s a p n ∧ ih_RX S' T) := by
  refine ih_bodyi (ret := some .int) rfl rfl (Nat.le_of_ble_eq_true rfl) ?_
  intro x A hA C
  have C : ih_Ok x w A cX7_worth 5 RX7 wsX7_worth (ih_rm 3) (some .int) := C
  show ih_Mw x w ih_shX A (ih_Qi x w ih_shX A _) 5 0 0 0 [(0, .ref (w.2.2 0)), (1, .int s), (2, .int a), (3, .int p), (4, .int n)] [] S
  have hct : ih_ct T ≤ 12 := hI.2.1.2.1
  have hp := hX.1
  have hpl9 : ih_pl T ≤ 9 := hI.2.2.1.2.1
  refine s_iload_n C 1 dX7_worth_0 rfl ?_
  refine s_iconst (v := nI 0) C dX7_worth_1 (by decide) ?_
  refine s_bipush (v := nI 23) C dX7_worth_2 (by decide) ?_
  refine s_callSi 3 C (c_X7_within _ w _ _ _ _ _) gX7_worth_X7_within rfl (by decide +kernel) (by decide) (by decide) rfl rfl (Nat.le_of_ble_eq_true rfl) dX7_worth_4 ?_
  rintro rw4 S2 ⟨hrw4, hSS⟩
  obtain rfl := hSS.symm
  rw [ih_t (by decide), ih_t (by decide)] at hrw4
  refine s_if_eq C 39 dX7_worth_7 (by decide) (fun h7 => ?_) (fun h7 => ?_)
  · replace h7 := ih_b0 hrw4 h7
    refine s_ldc (v := (-1000001)) C (by decide +kernel) dX7_worth_39 ?_
    exact s_ireturn C hA dX7_worth_41 (by rw [sp_worth, if_neg (by omega)]; exact ⟨rfl, hX⟩)
  · replace h7 := ih_b1 hrw4 h7
    refine s_iload_n C 2 dX7_worth_10 rfl ?_
    refine s_iconst (v := nI 0) C dX7_worth_11 (by decide) ?_
    refine s_bipush (v := nI 6) C dX7_worth_12 (by decide) ?_
    refine s_callSi 3 C (c_X7_within _ w _ _ _ _ _) gX7_worth_X7_within rfl (by decide +kernel) (by decide) (by decide) rfl rfl (Nat.le_of_ble_eq_true rfl) dX7_worth_14 ?_
    rintro rw14 S2 ⟨hrw14, hSS⟩
    obtain rfl := hSS.symm
    rw [ih_t (by decide), ih_t (by decide)] at hrw14
    refine s_if_eq C 39 dX7_worth_17 (by decide) (fun h17 => ?_) (fun h17 => ?_)
    · replace h17 := ih_b0 hrw14 h17
      refine s_ldc (v := (-1000001)) C (by decide +kernel) dX7_worth_39 ?_
      exact s_ireturn C hA dX7_worth_41 (by rw [sp_worth, if_neg (by omega)]; exact ⟨rfl, hX⟩)
    · replace h17 := ih_b1 hrw14 h17
      refine s_aload_n C 0 dX7_worth_20 rfl ?_
      refine s_iload_n C 3 dX7_worth_21 rfl ?_
      refine s_callVi 1 C (c_X7_isPlace _ w _ hp (ih_pl T) (by omega) (ih_RX_pl hX hI) _) gX7_worth_X7_isPlace rfl (by decide +kernel) (by decide) (by decide) (by decide) rfl (by decide) rfl rfl rfl (Nat.le_of_ble_eq_true rfl) dX7_worth_22 ?_
      rintro rp22 S2 ⟨hrp22, hSS⟩
      obtain rfl := hSS.symm
      refine s_if_eq C 39 dX7_worth_25 (by decide) (fun h25 => ?_) (fun h25 => ?_)
      · replace h25 := ih_b0 hrp22 h25
        refine s_ldc (v := (-1000001)) C (by decide +kernel) dX7_worth_39 ?_
        exact s_ireturn C hA dX7_worth_41 (by rw [sp_worth, if_neg (by omega)]; exact ⟨rfl, hX⟩)
      · replace h25 := ih_b1 hrp22 h25
        refine s_iload C 4 dX7_worth_28 rfl ?_
        refine s_iconst (v := nI 1) C dX7_worth_30 (by decide) ?_
        refine s_bipush (v := nI 30) C dX7_worth_31 (by decide) ?_
        refine s_callSi 3 C (c_X7_within _ w _ _ _ _ _) gX7_worth_X7_within rfl (by decide +kernel) (by decide) (by decide) rfl rfl (Nat.le_of_ble_eq_true rfl) dX7_worth_33 ?_
        rintro rw33 S2 ⟨hrw33, hSS⟩
        obtain rfl := hSS.symm
        rw [ih_t (by decide), ih_t (by decide)] at hrw33
        refine s_if_ne C 42 dX7_worth_36 (by decide) (fun h36 => ?_) (fun h36 => ?_)
        · replace h36 := ih_b1 hrw33 h36
          obtain ⟨sn, hsn, rfl, hsnt⟩ := ih_nat (a := s) h7.1
          obtain ⟨an, han, rfl, hant⟩ := ih_nat (a := a) h17.1
          obtain ⟨pn, hpn, rfl, hpnt⟩ := ih_nat (a := p) h25.1
          obtain ⟨nn, hnn, rfl, hnnt⟩ := ih_nat (a := n) (by omega)
          refine s_aload_n C 0 dX7_worth_42 rfl ?_
          refine s_getR C 7 4 (hp _ _ _ rfl) (by decide) rfl (by decide) rfl (fun _ h => List.mem_cons_of_mem _ (List.mem_append_left _ (List.mem_append_left _ (List.mem_append_left _ (List.mem_append_right _ h))))) (by decide) rfl (by decide +kernel) dX7_worth_43 ?_
          refine s_iload_n C 1 dX7_worth_46 rfl ?_
          refine s_iload_n C 2 dX7_worth_47 rfl ?_
          refine s_iload_n C 3 dX7_worth_48 rfl ?_
          refine s_iload C 4 dX7_worth_49 rfl ?_
          refine s_callVi 4 C (c_X2_worthOf _ w _ T hX hI (by omega) sn an pn nn (by omega) (by omega) (by omega) (by omega) (by omega)) gX7_worth_X2_worthOf rfl (by decide +kernel) (by decide) (by decide) (by decide) rfl (by decide) rfl rfl rfl (Nat.le_of_ble_eq_true rfl) dX7_worth_51 ?_
          rintro rr S ⟨hrr, hX⟩
          exact s_ireturn C hA dX7_worth_54 (by rw [sp_worth, if_pos (by omega), ih_n_nI hsn, ih_n_nI hpn, ih_n_nI hnn, ih_n_nI han]; exact ⟨hrr, hX⟩)
        · replace h36 := ih_b0 hrw33 h36
          refine s_ldc (v := (-1000001)) C (by decide +kernel) dX7_worth_39 ?_
          exact s_ireturn C hA dX7_worth_41 (by rw [sp_worth, if_neg (by omega)]; exact ⟨rfl, hX⟩)

