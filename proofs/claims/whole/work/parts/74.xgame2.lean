theorem ih_RX_g {S V : ih_Sg} {T : ih_TT} (h : ih_RX S T) (hc : ∀ k, k ≠ 53 → k ≠ 56 → k ≠ 57 → V.1 k = S.1 k) (h4 : V.1 53 4 = S.1 53 4) (hp : ih_PX V) (hq : rx_p V.2.2) : ih_RX V T :=
  ih_RX_oo h hp hq (fun k h1 h2 => hc k h2 (by omega) (by omega)) h4 (by unfold rx_o; rw [hc 46 (by decide) (by decide) (by decide), hc 47 (by decide) (by decide) (by decide)]; exact h.2.2.2.2.2.2.1) (fun _ _ _ _ => rfl) rfl rfl rfl
def ih_BH (Sb S : ih_Sg) (kt hh L s : Nat) : Prop := S.2 = Sb.2 ∧ (∀ a, a ≠ kt → S.1 a = Sb.1 a) ∧ ∀ l z, l < 19 → z < 25 → (l < L ∨ (l = L ∧ z < s)) → S.1 kt (l * 25 + z) = Sb.1 55 (hh * 19 + l)
theorem ih_BH_w {Sb S : ih_Sg} {kt hh L s : Nat} (h : ih_BH Sb S kt hh L s) (hL : L < 19) (hs : s < 25) : ih_BH Sb (ih_sI S kt (L * 25 + s) (Sb.1 55 (hh * 19 + L))) kt hh L (s + 1) := by
  refine ⟨h.1, fun a ha => (ih_sI_row ha).trans (h.2.1 a ha), fun l z hl hz hc => ?_⟩
  show ih_u2 S.1 kt (L * 25 + s) _ kt (l * 25 + z) = _
  by_cases e : l = L ∧ z = s
  · rw [e.1, e.2, ih_u2_s]
  · rw [ih_u2_j (by omega)]; exact h.2.2 l z hl hz (by omega)
/-- a half's numbers by strikes left -/
def ih_hf (T : ih_TT) (h v L s : Nat) : Nat := ih_half (ih_cg T (h % 2)) (h % 2) (ih_st (ih_cg T) (h - 1)) v L s
def ih_FH (Sb S : ih_Sg) (T : ih_TT) (h kw kv v : Nat) : Prop := ih_RX S T ∧ S.1 55 = Sb.1 55 ∧ S.1 53 4 = Sb.1 53 4 ∧ S.1 53 7 = nI (h % 2) ∧ ((kw = 56 ∧ kv = 57) ∨ (kw = 57 ∧ kv = 56)) ∧ S.2.2 53 5 = some kw ∧ S.2.2 53 6 = some kv ∧ (∀ L s, L ≤ 18 → s < 25 → S.1 kw (L * 25 + s) = nI (ih_hf T h v L s)) ∧ (∀ L, L ≤ 18 → S.1 kv (L * 25 + 24) = nI (ih_st (ih_cg T) (h - 1) L)) ∧ (0 < v → ∀ L s, L ≤ 18 → s < 25 → S.1 kv (L * 25 + s) = nI (ih_hf T h (v - 1) L s))
def ih_FHx (Sb S : ih_Sg) (T : ih_TT) (h v : Nat) : Prop := ∃ kw kv, ih_FH Sb S T h kw kv v
def ih_FW (Sb S : ih_Sg) (T : ih_TT) (h kw kv v L s : Nat) : Prop := ih_RX S T ∧ S.1 55 = Sb.1 55 ∧ S.1 53 4 = Sb.1 53 4 ∧ S.1 53 7 = nI (h % 2) ∧ ((kw = 56 ∧ kv = 57) ∨ (kw = 57 ∧ kv = 56)) ∧ S.2.2 53 5 = some kw ∧ S.2.2 53 6 = some kv ∧ (∀ l z, l ≤ 18 → z < 25 → S.1 kv (l * 25 + z) = nI (ih_hf T h v l z)) ∧ (∀ l z, l ≤ 18 → z < 24 → (l < L ∨ (l = L ∧ z < s)) → S.1 kw (l * 25 + z) = nI (ih_hf T h (v + 1) l z)) ∧ (∀ l, l ≤ 18 → S.1 kw (l * 25 + 24) = nI (ih_st (ih_cg T) (h - 1) l))
theorem ih_FW_w {Sb S : ih_Sg} {T : ih_TT} {h kw kv v L s : Nat} (q : ih_FW Sb S T h kw kv v L s) (hL : L ≤ 18) (hs : s < 24) : ih_FW Sb (ih_sI S kw (L * 25 + s) (nI (ih_hf T h (v + 1) L s))) T h kw kv v L (s + 1) := by
  obtain ⟨q1, q2, q3, q4, q5, q6, q7, q8, q9, q10⟩ := q
  refine ⟨ih_RX_g q1 (fun k h1 h2 h3 => ih_sI_row (by omega)) (by rw [ih_sI_row (by omega)]) q1.1 q1.2.1, ?_, ?_, ?_, q5, q6, q7, fun l z hl hz => ?_, fun l z hl hz hc => ?_, fun l hl => ?_⟩
  · rw [ih_sI_row (by omega)]; exact q2
  · rw [ih_sI_row (by omega)]; exact q3
  · rw [ih_sI_row (by omega)]; exact q4
  · rw [ih_sI_row (by omega)]; exact q8 l z hl hz
  · show ih_u2 S.1 kw (L * 25 + s) _ kw (l * 25 + z) = _
    by_cases e : l = L ∧ z = s
    · rw [e.1, e.2, ih_u2_s]
    · rw [ih_u2_j (by omega)]; exact q9 l z hl hz (by omega)
  · show ih_u2 S.1 kw (L * 25 + s) _ kw (l * 25 + 24) = _
    rw [ih_u2_j (by omega)]; exact q10 l hl
theorem ih_FW_l {Sb S : ih_Sg} {T : ih_TT} {h kw kv v L : Nat} (q : ih_FW Sb S T h kw kv v L 24) : ih_FW Sb S T h kw kv v (L + 1) 0 := by
  obtain ⟨q1, q2, q3, q4, q5, q6, q7, q8, q9, q10⟩ := q
  exact ⟨q1, q2, q3, q4, q5, q6, q7, q8, fun l z hl hz hc => q9 l z hl hz (by omega), q10⟩
theorem ih_FW_e {Sb S : ih_Sg} {T : ih_TT} {h kw kv v : Nat} (q : ih_FW Sb S T h kw kv v 19 0) : ih_FH Sb S T h kw kv (v + 1) := by
  obtain ⟨q1, q2, q3, q4, q5, q6, q7, q8, q9, q10⟩ := q
  refine ⟨q1, q2, q3, q4, q5, q6, q7, fun l z hl hz => ?_, fun l hl => ?_, fun _ l z hl hz => ?_⟩
  · rcases Nat.lt_or_ge z 24 with e | e
    · exact q9 l z hl e (by omega)
    · obtain rfl : z = 24 := by omega
      rw [q10 l hl, ih_hf, ih_half_o (by omega)]
  · rw [q8 l 24 hl (by omega), ih_hf, ih_half_o (by omega)]
  · exact q8 l z hl hz
theorem ih_FW_b {Sb S : ih_Sg} {T : ih_TT} {h kw kv v : Nat} (q : ih_FH Sb S T h kw kv v) : ih_FW Sb (ih_sR (ih_sR S 53 6 (some kw)) 53 5 (some kv)) T h kv kw v 0 0 := by
  obtain ⟨q1, q2, q3, q4, q5, q6, q7, q8, q9, q10⟩ := q
  refine ⟨ih_RX_p q1 rfl (ih_PX_R (ih_PX_R q1.1 rfl) rfl) ⟨q1.2.1.1, q1.2.1.2.1, ?_⟩, q2, q3, q4, by omega, rfl, rfl, q8, fun l z _ _ hc => by omega, q9⟩
  rcases q5 with ⟨rfl, rfl⟩ | ⟨rfl, rfl⟩
  · exact Or.inr ⟨rfl, rfl⟩
  · exact Or.inl ⟨rfl, rfl⟩
theorem ih_FW_m {Sb S : ih_Sg} {T : ih_TT} {h kw kv v L s : Nat} (q : ih_FW Sb S T h kw kv v L s) (hI : ih_Inv T) (hT : ih_HT T) : ih_MW S T (h % 2) kv (ih_st (ih_cg T) (h - 1)) v := by
  obtain ⟨q1, q2, q3, q4, q5, q6, q7, q8, q9, q10⟩ := q
  exact ⟨q1, by omega, by omega, q7, q4, ih_st_le (ih_cg_ok hI hT) (h - 1), q8⟩
theorem ih_FH_0 {S Sa V : ih_Sg} {T : ih_TT} {h kw kv : Nat} (hX : ih_RX S T) (hmb : (kw = 56 ∧ kv = 57) ∨ (kw = 57 ∧ kv = 56)) (h5 : S.2.2 53 5 = some kw) (h6 : S.2.2 53 6 = some kv) (hst : ∀ L, L < 19 → S.1 55 ((h - 1) * 19 + L) = nI (ih_st (ih_cg T) (h - 1) L)) (hA : ih_BH (ih_sI S 53 7 (nI (h % 2))) Sa kw (h - 1) 19 0) (hB : ih_BH Sa V kv (h - 1) 19 0) : ih_FHx S V T h 0 := by
  obtain ⟨a1, a2, a3⟩ := hA
  obtain ⟨b1, b2, b3⟩ := hB
  have e : V.2 = S.2 := b1.trans a1
  have e55 : V.1 55 = S.1 55 := (b2 55 (by omega)).trans (a2 55 (by omega))
  have e53 : V.1 53 = ih_u2 S.1 53 7 (nI (h % 2)) 53 := (b2 53 (by omega)).trans (a2 53 (by omega))
  have e4 : V.1 53 4 = S.1 53 4 := by rw [e53, ih_u2_j (by decide)]
  refine ⟨kw, kv, ih_RX_g hX (fun k h1 h2 h3 => (b2 k (by omega)).trans ((a2 k (by omega)).trans (ih_sI_row h1))) e4 (fun a c i q => by rw [e]; exact hX.1 a c i q) (by rw [e]; exact hX.2.1), e55, e4, by rw [e53, ih_u2_s], hmb, by rw [e]; exact h5, by rw [e]; exact h6, fun L s hL hs => ?_, fun L hL => ?_, fun q => absurd q (Nat.lt_irrefl 0)⟩
  · rw [b2 kw (by omega), a3 L s (by omega) hs (by omega), ih_hf, ih_half_z]
    exact hst L (by omega)
  · rw [b3 L 24 (by omega) (by omega) (by omega), a2 55 (by omega)]
    exact hst L (by omega)
set_option maxHeartbeats 4000000 in
set_option maxRecDepth 100000 in
theorem c_X4_beginHalf (l : Launch) (w : ih_Wd) (Sb : ih_Sg) (hp : ih_PX Sb) (kt : Nat) (hkt : kt = 56 ∨ kt = 57) (hh : Nat) (hhb : hh ≤ 5) : ih_Cv l yX4_beginHalf wsX4_beginHalf 0 w ih_shX [.ref (w.2.2 53), .ref (w.2.2 kt), .int (nI hh)] Sb (fun S' => ih_BH Sb S' kt hh 19 0) := by
  refine ih_bodyv (ret := none) rfl rfl (Nat.le_of_ble_eq_true rfl) ?_
  intro x A hA C
  have C : ih_Ok x w A cX4_beginHalf 6 RX4 wsX4_beginHalf (ih_rm 0) (none) := C
  show ih_Mw x w ih_shX A (ih_Qv x w ih_shX A _) 6 0 0 0 [(0, .ref (w.2.2 53)), (1, .ref (w.2.2 kt)), (2, .int (nI hh))] [] Sb
  obtain ⟨Q, hQ⟩ : ∃ Q, Q = ih_Qv x w ih_shX A (fun S' => ih_BH Sb S' kt hh 19 0) := ⟨_, rfl⟩
  rw [show ih_Qv x w ih_shX A _ = Q from hQ.symm]
  have hktd : ih_shX.1 kt = 9 := by rcases hkt with rfl | rfl <;> rfl
  have hktl : ih_shX.2.1 kt = 475 := by rcases hkt with rfl | rfl <;> rfl
  refine s_iconst (v := nI 0) C dX4_beginHalf_0 (by decide) ?_
  refine s_istore_n (lv' := [(3, .int (nI 0)), (0, .ref (w.2.2 53)), (1, .ref (w.2.2 kt)), (2, .int (nI hh))]) C dX4_beginHalf_1 rfl (by decide) rfl ?_
  have hx_2 : ∀ S, ih_BH Sb S kt hh (19) 0 → ih_Mw x w ih_shX A Q 6 0 0 54 [(0, .ref (w.2.2 53))] [] S := by
    intro S hE
    rw [hQ]
    exact s_vreturn C hA dX4_beginHalf_54 hE
  have loop_2 : ∀ (fu Lv : Nat), Lv + fu = 19 → ∀ S, ih_BH Sb S kt hh (Lv) 0 → ih_Mw x w ih_shX A Q 6 0 0 2 [(0, .ref (w.2.2 53)), (1, .ref (w.2.2 kt)), (2, .int (nI hh)), (3, .int (nI Lv))] [] S := by
    intro fu
    induction fu with
    | zero =>
      intro Lv hLve S hE
      have hLv0 : Lv = 19 := by omega
      refine s_iload_n C 3 dX4_beginHalf_2 rfl ?_
      refine s_bipush (v := nI 19) C dX4_beginHalf_3 (by decide) ?_
      refine s_icmp_geN 54 C dX4_beginHalf_5 (by decide) (by omega) (by omega) (fun h5 => ?_) (fun h5 => ?_)
      · refine s_perm [0] rfl ?_
        subst hLv0
        exact hx_2 _ hE
      · exfalso; omega
    | succ fu ih_2 =>
      intro Lv hLve S hE
      have hLvl : Lv < 19 := by omega
      have hpS : ih_PX S := fun a b i q => by rw [hE.1]; exact hp a b i q
      refine s_iload_n C 3 dX4_beginHalf_2 rfl ?_
      refine s_bipush (v := nI 19) C dX4_beginHalf_3 (by decide) ?_
      refine s_icmp_geN 54 C dX4_beginHalf_5 (by decide) (by omega) (by omega) (fun h5 => ?_) (fun h5 => ?_)
      · exfalso; omega
      · refine s_aload_n C 0 dX4_beginHalf_8 rfl ?_
        refine s_getR C 4 3 (hpS _ _ _ rfl) (by decide) rfl (by decide) rfl (fun _ h => List.mem_cons_of_mem _ (List.mem_append_right _ h)) (by decide) rfl (by decide +kernel) dX4_beginHalf_9 ?_
        refine s_iload_n C 2 dX4_beginHalf_12 rfl ?_
        refine s_bipush (v := nI 19) C dX4_beginHalf_13 (by decide) ?_
        refine s_imulN C dX4_beginHalf_15 ?_
        refine s_iload_n C 3 dX4_beginHalf_16 rfl ?_
        refine s_iaddN C dX4_beginHalf_17 ?_
        refine s_iaload C 114 ((hh * 19) + Lv) rfl rfl (by omega) (by decide) (by decide) rfl dX4_beginHalf_18 ?_
        refine s_toe (b := Sb.1 55 (hh * 19 + Lv)) (congrFun (hE.2.1 55 (by omega)) _) ?_
        refine s_istore (lv' := [(4, .int (Sb.1 55 (hh * 19 + Lv))), (0, .ref (w.2.2 53)), (1, .ref (w.2.2 kt)), (2, .int (nI hh)), (3, .int (nI Lv))]) C dX4_beginHalf_19 (by decide) rfl ?_
        refine s_iconst (v := nI 0) C dX4_beginHalf_21 (by decide) ?_
        refine s_istore (lv' := [(5, .int (nI 0)), (4, .int (Sb.1 55 (hh * 19 + Lv))), (0, .ref (w.2.2 53)), (1, .ref (w.2.2 kt)), (2, .int (nI hh)), (3, .int (nI Lv))]) C dX4_beginHalf_22 (by decide) rfl ?_
        have hx_24 : ∀ S, ih_BH Sb S kt hh Lv (25) → ih_Mw x w ih_shX A Q 6 0 0 48 [(0, .ref (w.2.2 53)), (1, .ref (w.2.2 kt)), (2, .int (nI hh)), (3, .int (nI Lv))] [] S := by
          intro S hE
          refine s_iinc (u := nI (Lv + 1)) (lv' := [(3, .int (nI (Lv + 1))), (0, .ref (w.2.2 53)), (1, .ref (w.2.2 kt)), (2, .int (nI hh))]) C 3 dX4_beginHalf_48 rfl (ih_incN (by decide)) (by decide) rfl ?_
          refine s_goto C 2 dX4_beginHalf_51 (by decide) ?_
          refine s_perm [1, 2, 3, 0] rfl ?_
          exact ih_2 (Lv + 1) (by omega) _ ⟨hE.1, hE.2.1, fun l z hl hz hc => hE.2.2 l z hl hz (by omega)⟩
        have loop_24 : ∀ (fu z : Nat), z + fu = 25 → ∀ S, ih_BH Sb S kt hh Lv (z) → ih_Mw x w ih_shX A Q 6 0 0 24 [(0, .ref (w.2.2 53)), (1, .ref (w.2.2 kt)), (2, .int (nI hh)), (3, .int (nI Lv)), (4, .int (Sb.1 55 (hh * 19 + Lv))), (5, .int (nI z))] [] S := by
          intro fu
          induction fu with
          | zero =>
            intro z hze S hE
            have hz0 : z = 25 := by omega
            refine s_iload C 5 dX4_beginHalf_24 rfl ?_
            refine s_bipush (v := nI 25) C dX4_beginHalf_26 (by decide) ?_
            refine s_icmp_geN 48 C dX4_beginHalf_28 (by decide) (by omega) (by omega) (fun h28 => ?_) (fun h28 => ?_)
            · refine s_perm [0, 1, 2, 3] rfl ?_
              subst hz0
              exact hx_24 _ hE
            · exfalso; omega
          | succ fu ih_24 =>
            intro z hze S hE
            have hzl : z < 25 := by omega
            refine s_iload C 5 dX4_beginHalf_24 rfl ?_
            refine s_bipush (v := nI 25) C dX4_beginHalf_26 (by decide) ?_
            refine s_icmp_geN 48 C dX4_beginHalf_28 (by decide) (by omega) (by omega) (fun h28 => ?_) (fun h28 => ?_)
            · exfalso; omega
            · refine s_aload_n C 1 dX4_beginHalf_31 rfl ?_
              refine s_iload_n C 3 dX4_beginHalf_32 rfl ?_
              refine s_bipush (v := nI 25) C dX4_beginHalf_33 (by decide) ?_
              refine s_imulN C dX4_beginHalf_35 ?_
              refine s_iload C 5 dX4_beginHalf_36 rfl ?_
              refine s_iaddN C dX4_beginHalf_38 ?_
              refine s_iload C 4 dX4_beginHalf_39 rfl ?_
              refine s_iastore C 475 ((Lv * 25) + z) rfl hktl (by omega) (by decide) (show kt < 62 by omega) hktd dX4_beginHalf_41 ?_
              refine s_iinc (u := nI (z + 1)) (lv' := [(5, .int (nI (z + 1))), (0, .ref (w.2.2 53)), (1, .ref (w.2.2 kt)), (2, .int (nI hh)), (3, .int (nI Lv)), (4, .int (Sb.1 55 (hh * 19 + Lv)))]) C 5 dX4_beginHalf_42 rfl (ih_incN (by decide)) (by decide) rfl ?_
              refine s_goto C 24 dX4_beginHalf_45 (by decide) ?_
              refine s_perm [1, 2, 3, 4, 5, 0] rfl ?_
              exact ih_24 (z + 1) (by omega) _ (ih_BH_w hE (by omega) (by omega))
        refine s_perm [2, 3, 4, 5, 1, 0] rfl ?_
        exact loop_24 25 0 (by omega) _ hE
  refine s_perm [1, 2, 3, 0] rfl ?_
  exact loop_2 19 0 (by omega) _ ⟨rfl, fun _ _ => rfl, fun l z _ _ hc => by omega⟩

set_option maxHeartbeats 4000000 in
set_option maxRecDepth 100000 in
theorem c_X4_fillHalf (l : Launch) (w : ih_Wd) (Sb : ih_Sg) (T : ih_TT) (hX : ih_RX Sb T) (hI : ih_Inv T) (hT : ih_HT T) (h n : Nat) (hh0 : 0 < h) (hh5 : h ≤ 5) (hn : n ≤ 12) (hst : ∀ L, L < 19 → Sb.1 55 ((h - 1) * 19 + L) = nI (ih_st (ih_cg T) (h - 1) L)) : ih_Cv l yX4_fillHalf wsX4_fillHalf 3 w ih_shX [.ref (w.2.2 53), .int (nI h), .int (nI n)] Sb (fun S' => ih_FHx Sb S' T h n) := by
  refine ih_bodyv (ret := none) rfl rfl (Nat.le_of_ble_eq_true rfl) ?_
  intro x A hA C
  have C : ih_Ok x w A cX4_fillHalf 7 RX4 wsX4_fillHalf (ih_rm 3) (none) := C
  show ih_Mw x w ih_shX A (ih_Qv x w ih_shX A _) 7 0 0 0 [(0, .ref (w.2.2 53)), (1, .int (nI h)), (2, .int (nI n))] [] Sb
  obtain ⟨Q, hQ⟩ : ∃ Q, Q = ih_Qv x w ih_shX A (fun S' => ih_FHx Sb S' T h n) := ⟨_, rfl⟩
  rw [show ih_Qv x w ih_shX A _ = Q from hQ.symm]
  obtain ⟨kw, kv, hmb, h5, h6⟩ : ∃ kw kv, ((kw = 56 ∧ kv = 57) ∨ (kw = 57 ∧ kv = 56)) ∧ Sb.2.2 53 5 = some kw ∧ Sb.2.2 53 6 = some kv := by
    rcases hX.2.1.2.2 with q | q
    · exact ⟨56, 57, Or.inl ⟨rfl, rfl⟩, q⟩
    · exact ⟨57, 56, Or.inr ⟨rfl, rfl⟩, q⟩
  have hkwd : ih_shX.1 kw = 9 := by rcases hmb with ⟨rfl, rfl⟩ | ⟨rfl, rfl⟩ <;> rfl
  have hkwl : ih_shX.2.1 kw = 475 := by rcases hmb with ⟨rfl, rfl⟩ | ⟨rfl, rfl⟩ <;> rfl
  have hkvd : ih_shX.1 kv = 9 := by rcases hmb with ⟨rfl, rfl⟩ | ⟨rfl, rfl⟩ <;> rfl
  have hkvl : ih_shX.2.1 kv = 475 := by rcases hmb with ⟨rfl, rfl⟩ | ⟨rfl, rfl⟩ <;> rfl
  refine s_aload_n C 0 dX4_fillHalf_0 rfl ?_
  refine s_iload_n C 1 dX4_fillHalf_1 rfl ?_
  refine s_iconst (v := nI 2) C dX4_fillHalf_2 (by decide) ?_
  refine s_iremN C dX4_fillHalf_3 (by omega) (by omega) (by omega) ?_
  refine s_putI (ty := .int) C 4 7 tyX4 tyX4_ok nmX4 (by decide) rfl (by decide) rfl (fun _ h => List.mem_cons_of_mem _ (List.mem_append_left _ (List.mem_append_left _ (List.mem_append_right _ h)))) (by decide) rfl (by decide +kernel) rfl (by decide +kernel) rfl rfl dX4_fillHalf_4 ?_
  refine s_aload_n C 0 dX4_fillHalf_7 rfl ?_
  refine s_aload_n C 0 dX4_fillHalf_8 rfl ?_
  refine s_getR C 4 5 h5 (by decide) rfl (by decide) rfl (fun _ h => List.mem_cons_of_mem _ (List.mem_append_left _ (List.mem_append_left _ (List.mem_append_right _ h)))) (by decide) rfl (by decide +kernel) dX4_fillHalf_9 ?_
  refine s_iload_n C 1 dX4_fillHalf_12 rfl ?_
  refine s_iconst (v := nI 1) C dX4_fillHalf_13 (by decide) ?_
  refine s_isubN C dX4_fillHalf_14 (by omega) ?_
  refine s_callVv 2 C (c_X4_beginHalf _ w (ih_sI Sb 53 7 (nI (h % 2))) hX.1 kw (by omega) (h - 1) (by omega)) gX4_fillHalf_X4_beginHalf rfl (by decide +kernel) (by decide) (by decide) (by decide) rfl (by decide) rfl rfl rfl (Nat.le_of_ble_eq_true rfl) dX4_fillHalf_15 ?_
  rintro S6 hS6
  refine s_aload_n C 0 dX4_fillHalf_18 rfl ?_
  refine s_aload_n C 0 dX4_fillHalf_19 rfl ?_
  refine s_getR C 4 6 (by rw [hS6.1]; exact h6) (by decide) rfl (by decide) rfl (fun _ h => List.mem_cons_of_mem _ (List.mem_append_left _ (List.mem_append_left _ (List.mem_append_right _ h)))) (by decide) rfl (by decide +kernel) dX4_fillHalf_20 ?_
  refine s_iload_n C 1 dX4_fillHalf_23 rfl ?_
  refine s_iconst (v := nI 1) C dX4_fillHalf_24 (by decide) ?_
  refine s_isubN C dX4_fillHalf_25 (by omega) ?_
  refine s_callVv 2 C (c_X4_beginHalf _ w _ (fun a b i q => by rw [hS6.1]; exact hX.1 a b i q) kv (by omega) (h - 1) (by omega)) gX4_fillHalf_X4_beginHalf rfl (by decide +kernel) (by decide) (by decide) (by decide) rfl (by decide) rfl rfl rfl (Nat.le_of_ble_eq_true rfl) dX4_fillHalf_26 ?_
  rintro S7 hS7
  refine s_iconst (v := nI 1) C dX4_fillHalf_29 (by decide) ?_
  refine s_istore_n (lv' := [(3, .int (nI 1)), (0, .ref (w.2.2 53)), (1, .int (nI h)), (2, .int (nI n))]) C dX4_fillHalf_30 rfl (by decide) rfl ?_
  have hx_31 : ∀ S, ih_FHx Sb S T h (n) → ih_Mw x w ih_shX A Q 7 0 0 115 [(0, .ref (w.2.2 53))] [] S := by
    intro S hEx
    rw [hQ]
    exact s_vreturn C hA dX4_fillHalf_115 hEx
  have loop_31 : ∀ (fu v : Nat), v + fu = n → ∀ S, ih_FHx Sb S T h (v) → ih_Mw x w ih_shX A Q 7 0 0 31 [(0, .ref (w.2.2 53)), (1, .int (nI h)), (2, .int (nI n)), (3, .int (nI (v + 1)))] [] S := by
    intro fu
    induction fu with
    | zero =>
      intro v hve S hEx
      have hv0 : v = n := by omega
      refine s_iload_n C 3 dX4_fillHalf_31 rfl ?_
      refine s_iload_n C 2 dX4_fillHalf_32 rfl ?_
      refine s_icmp_gtN 115 C dX4_fillHalf_33 (by decide) (by omega) (by omega) (fun h33 => ?_) (fun h33 => ?_)
      · refine s_perm [0] rfl ?_
        subst hv0
        exact hx_31 _ hEx
      · exfalso; omega
    | succ fu ih_31 =>
      intro v hve S hEx
      have hvl : v < n := by omega
      obtain ⟨kw, kv, hM⟩ := hEx
      have hmb := hM.2.2.2.2.1
      have hkwd : ih_shX.1 kw = 9 := by rcases hmb with ⟨rfl, rfl⟩ | ⟨rfl, rfl⟩ <;> rfl
      have hkwl : ih_shX.2.1 kw = 475 := by rcases hmb with ⟨rfl, rfl⟩ | ⟨rfl, rfl⟩ <;> rfl
      have hkvd : ih_shX.1 kv = 9 := by rcases hmb with ⟨rfl, rfl⟩ | ⟨rfl, rfl⟩ <;> rfl
      have hkvl : ih_shX.2.1 kv = 475 := by rcases hmb with ⟨rfl, rfl⟩ | ⟨rfl, rfl⟩ <;> rfl
      refine s_iload_n C 3 dX4_fillHalf_31 rfl ?_
      refine s_iload_n C 2 dX4_fillHalf_32 rfl ?_
      refine s_icmp_gtN 115 C dX4_fillHalf_33 (by decide) (by omega) (by omega) (fun h33 => ?_) (fun h33 => ?_)
      · exfalso; omega
      · refine s_aload_n C 0 dX4_fillHalf_36 rfl ?_
        refine s_getR C 4 6 hM.2.2.2.2.2.2.1 (by decide) rfl (by decide) rfl (fun _ h => List.mem_cons_of_mem _ (List.mem_append_left _ (List.mem_append_left _ (List.mem_append_right _ h)))) (by decide) rfl (by decide +kernel) dX4_fillHalf_37 ?_
        refine s_astore (lv' := [(4, .ref (w.2.2 kv)), (0, .ref (w.2.2 53)), (1, .int (nI h)), (2, .int (nI n)), (3, .int (nI (v + 1)))]) C dX4_fillHalf_40 (by decide) rfl ?_
        refine s_aload_n C 1 dX4_fillHalf_42 rfl ?_
        refine s_aload_n C 1 dX4_fillHalf_43 rfl ?_
        refine s_getR C 4 5 hM.2.2.2.2.2.1 (by decide) rfl (by decide) rfl (fun _ h => List.mem_cons_of_mem _ (List.mem_append_left _ (List.mem_append_left _ (List.mem_append_right _ h)))) (by decide) rfl (by decide +kernel) dX4_fillHalf_44 ?_
        refine s_putR (ty := .array .int) C 4 6 tyX4 tyX4_ok nmX4 (by decide) rfl (by decide) rfl (fun _ h => List.mem_cons_of_mem _ (List.mem_append_left _ (List.mem_append_left _ (List.mem_append_right _ h)))) (by decide) rfl (by decide +kernel) rfl (by decide +kernel) rfl rfl dX4_fillHalf_47 ?_
        refine s_aload_n C 1 dX4_fillHalf_50 rfl ?_
        refine s_aload C 0 dX4_fillHalf_51 rfl ?_
        refine s_putR (ty := .array .int) C 4 5 tyX4 tyX4_ok nmX4 (by decide) rfl (by decide) rfl (fun _ h => List.mem_cons_of_mem _ (List.mem_append_left _ (List.mem_append_left _ (List.mem_append_right _ h)))) (by decide) rfl (by decide +kernel) rfl (by decide +kernel) rfl rfl dX4_fillHalf_53 ?_
        refine s_iconst (v := nI 0) C dX4_fillHalf_56 (by decide) ?_
        refine s_istore (lv' := [(5, .int (nI 0)), (4, .ref (w.2.2 kv)), (0, .ref (w.2.2 53)), (1, .int (nI h)), (2, .int (nI n)), (3, .int (nI (v + 1)))]) C dX4_fillHalf_57 (by decide) rfl ?_
        have hx_59 : ∀ S, ih_FW Sb S T h kv kw v (19) 0 → ih_Mw x w ih_shX A Q 7 0 0 109 [(0, .ref (w.2.2 53)), (1, .int (nI h)), (2, .int (nI n)), (3, .int (nI (v + 1)))] [] S := by
          intro S hE
          refine s_iinc (u := nI (v + 1 + 1)) (lv' := [(3, .int (nI (v + 1 + 1))), (0, .ref (w.2.2 53)), (1, .int (nI h)), (2, .int (nI n))]) C 3 dX4_fillHalf_109 rfl (ih_incN (by decide)) (by decide) rfl ?_
          refine s_goto C 31 dX4_fillHalf_112 (by decide) ?_
          refine s_perm [1, 2, 3, 0] rfl ?_
          exact ih_31 (v + 1) (by omega) _ ⟨kv, kw, ih_FW_e hE⟩
        have loop_59 : ∀ (fu Lv : Nat), Lv + fu = 19 → ∀ S, ih_FW Sb S T h kv kw v (Lv) 0 → ih_Mw x w ih_shX A Q 7 0 0 59 [(0, .ref (w.2.2 53)), (1, .int (nI h)), (2, .int (nI n)), (3, .int (nI (v + 1))), (5, .int (nI Lv))] [] S := by
          intro fu
          induction fu with
          | zero =>
            intro Lv hLve S hE
            have hLv0 : Lv = 19 := by omega
            refine s_iload C 4 dX4_fillHalf_59 rfl ?_
            refine s_bipush (v := nI 19) C dX4_fillHalf_61 (by decide) ?_
            refine s_icmp_geN 109 C dX4_fillHalf_63 (by decide) (by omega) (by omega) (fun h63 => ?_) (fun h63 => ?_)
            · refine s_perm [0, 1, 2, 3] rfl ?_
              subst hLv0
              exact hx_59 _ hE
            · exfalso; omega
          | succ fu ih_59 =>
            intro Lv hLve S hE
            have hLvl : Lv < 19 := by omega
            refine s_iload C 4 dX4_fillHalf_59 rfl ?_
            refine s_bipush (v := nI 19) C dX4_fillHalf_61 (by decide) ?_
            refine s_icmp_geN 109 C dX4_fillHalf_63 (by decide) (by omega) (by omega) (fun h63 => ?_) (fun h63 => ?_)
            · exfalso; omega
            · refine s_iconst (v := nI 0) C dX4_fillHalf_66 (by decide) ?_
              refine s_istore (lv' := [(6, .int (nI 0)), (0, .ref (w.2.2 53)), (1, .int (nI h)), (2, .int (nI n)), (3, .int (nI (v + 1))), (5, .int (nI Lv))]) C dX4_fillHalf_67 (by decide) rfl ?_
              have hx_69 : ∀ S, ih_FW Sb S T h kv kw v Lv (24) → ih_Mw x w ih_shX A Q 7 0 0 103 [(0, .ref (w.2.2 53)), (1, .int (nI h)), (2, .int (nI n)), (3, .int (nI (v + 1))), (5, .int (nI Lv))] [] S := by
                intro S hE
                refine s_iinc (u := nI (Lv + 1)) (lv' := [(5, .int (nI (Lv + 1))), (0, .ref (w.2.2 53)), (1, .int (nI h)), (2, .int (nI n)), (3, .int (nI (v + 1)))]) C 4 dX4_fillHalf_103 rfl (ih_incN (by decide)) (by decide) rfl ?_
                refine s_goto C 59 dX4_fillHalf_106 (by decide) ?_
                refine s_perm [1, 2, 3, 4, 0] rfl ?_
                exact ih_59 (Lv + 1) (by omega) _ (ih_FW_l hE)
              have loop_69 : ∀ (fu z : Nat), z + fu = 24 → ∀ S, ih_FW Sb S T h kv kw v Lv (z) → ih_Mw x w ih_shX A Q 7 0 0 69 [(0, .ref (w.2.2 53)), (1, .int (nI h)), (2, .int (nI n)), (3, .int (nI (v + 1))), (5, .int (nI Lv)), (6, .int (nI z))] [] S := by
                intro fu
                induction fu with
                | zero =>
                  intro z hze S hE
                  have hz0 : z = 24 := by omega
                  refine s_iload C 5 dX4_fillHalf_69 rfl ?_
                  refine s_bipush (v := nI 24) C dX4_fillHalf_71 (by decide) ?_
                  refine s_icmp_geN 103 C dX4_fillHalf_73 (by decide) (by omega) (by omega) (fun h73 => ?_) (fun h73 => ?_)
                  · refine s_perm [0, 1, 2, 3, 4] rfl ?_
                    subst hz0
                    exact hx_69 _ hE
                  · exfalso; omega
                | succ fu ih_69 =>
                  intro z hze S hE
                  have hzl : z < 24 := by omega
                  refine s_iload C 5 dX4_fillHalf_69 rfl ?_
                  refine s_bipush (v := nI 24) C dX4_fillHalf_71 (by decide) ?_
                  refine s_icmp_geN 103 C dX4_fillHalf_73 (by decide) (by omega) (by omega) (fun h73 => ?_) (fun h73 => ?_)
                  · exfalso; omega
                  · refine s_aload_n C 0 dX4_fillHalf_76 rfl ?_
                    refine s_getR C 4 5 hE.2.2.2.2.2.1 (by decide) rfl (by decide) rfl (fun _ h => List.mem_cons_of_mem _ (List.mem_append_left _ (List.mem_append_left _ (List.mem_append_right _ h)))) (by decide) rfl (by decide +kernel) dX4_fillHalf_77 ?_
                    refine s_iload C 4 dX4_fillHalf_80 rfl ?_
                    refine s_bipush (v := nI 25) C dX4_fillHalf_82 (by decide) ?_
                    refine s_imulN C dX4_fillHalf_84 ?_
                    refine s_iload C 5 dX4_fillHalf_85 rfl ?_
                    refine s_iaddN C dX4_fillHalf_87 ?_
                    refine s_aload_n C 0 dX4_fillHalf_88 rfl ?_
                    refine s_iload C 4 dX4_fillHalf_89 rfl ?_
                    refine s_iload C 5 dX4_fillHalf_91 rfl ?_
                    refine s_callVi 2 C (c_X4_winByBest _ w _ T hI hT (h % 2) kw v (ih_st (ih_cg T) (h - 1)) (ih_FW_m hE hI hT) Lv z (by omega) (by omega)) gX4_fillHalf_X4_winByBest rfl (by decide +kernel) (by decide) (by decide) (by decide) rfl (by decide) rfl rfl rfl (Nat.le_of_ble_eq_true rfl) dX4_fillHalf_93 ?_
                    rintro rv S2 ⟨hrv, hSS⟩
                    obtain rfl := hSS.symm
                    rw [show ih_half (ih_cg T (h % 2)) (h % 2) (ih_st (ih_cg T) (h - 1)) (v + 1) Lv z = ih_hf T h (v + 1) Lv z from rfl] at hrv
                    subst hrv
                    refine s_iastore C 475 ((Lv * 25) + z) rfl hkvl (by omega) (by decide) (show kv < 62 by omega) hkvd dX4_fillHalf_96 ?_
                    refine s_iinc (u := nI (z + 1)) (lv' := [(6, .int (nI (z + 1))), (0, .ref (w.2.2 53)), (1, .int (nI h)), (2, .int (nI n)), (3, .int (nI (v + 1))), (5, .int (nI Lv))]) C 5 dX4_fillHalf_97 rfl (ih_incN (by decide)) (by decide) rfl ?_
                    refine s_goto C 69 dX4_fillHalf_100 (by decide) ?_
                    refine s_perm [1, 2, 3, 4, 5, 0] rfl ?_
                    exact ih_69 (z + 1) (by omega) _ (ih_FW_w hE (by omega) (by omega))
              refine s_perm [1, 2, 3, 4, 5, 0] rfl ?_
              exact loop_69 24 0 (by omega) _ hE
        refine s_perm [2, 3, 4, 5, 0] rfl ?_
        exact loop_59 19 0 (by omega) _ (ih_FW_b hM)
  refine s_perm [1, 2, 3, 0] rfl ?_
  exact loop_31 n 0 (by omega) _ (ih_FH_0 hX hmb h5 h6 hst hS6 hS7)

/-- WIN at the begins of halves up to q stands -/
def ih_GS (S : ih_Sg) (T : ih_TT) (q : Nat) : Prop := ih_RX S T ∧ S.1 53 4 = nI q ∧ ∀ h, h ≤ q → ∀ L, L < 19 → S.1 55 (h * 19 + L) = nI (ih_st (ih_cg T) h L)
theorem ih_GS_of {S : ih_Sg} {T : ih_TT} (hX : ih_RX S T) : ∃ kh, kh ≤ 5 ∧ ih_GS S T kh := by
  obtain ⟨kh, a, b, c, d⟩ := hX.2.2.2.2.2.2.2.2.2.2
  refine ⟨kh, a, hX, b, fun h hh L hL => ?_⟩
  by_cases hk : 0 < kh
  · exact (d hk).2 h hh L hL
  · obtain rfl : h = 0 := by omega
    rw [Nat.zero_mul, Nat.zero_add]
    exact c L hL
def ih_LW (S : ih_Sg) (T : ih_TT) (q kw L : Nat) : Prop := ih_GS S T q ∧ (kw = 56 ∨ kw = 57) ∧ S.2.2 53 5 = some kw ∧ (∀ l, l < 19 → S.1 kw (l * 25) = nI (ih_st (ih_cg T) (q + 1) l)) ∧ ∀ l, l < L → S.1 55 ((q + 1) * 19 + l) = nI (ih_st (ih_cg T) (q + 1) l)
theorem ih_LW_0 {Sb S : ih_Sg} {T : ih_TT} {q kw kv : Nat} (hS : ih_GS Sb T q) (h : ih_FH Sb S T (q + 1) kw kv 12) : ih_LW S T q kw 0 := by
  obtain ⟨q1, q2, q3, q4, q5, q6, q7, q8, q9, q10⟩ := h
  refine ⟨⟨q1, by rw [q3]; exact hS.2.1, fun h hh L hL => by rw [q2]; exact hS.2.2 h hh L hL⟩, by omega, q6, fun l hl => ?_, fun l hl => absurd hl (Nat.not_lt_zero l)⟩
  have := q8 l 0 (by omega) (by omega)
  rw [Nat.add_zero] at this
  rw [this, ih_st]
  rfl
theorem ih_LW_w {S : ih_Sg} {T : ih_TT} {q kw L : Nat} (hq : q < 5) (h : ih_LW S T q kw L) (hL : L < 19) : ih_LW (ih_sI S 55 ((q + 1) * 19 + L) (nI (ih_st (ih_cg T) (q + 1) L))) T q kw (L + 1) := by
  obtain ⟨⟨h1, h2, h3⟩, h4, h5, h6, h7⟩ := h
  have hr : ∀ k, k ≠ 55 → (ih_sI S 55 ((q + 1) * 19 + L) (nI (ih_st (ih_cg T) (q + 1) L))).1 k = S.1 k := fun k hk => ih_sI_row hk
  refine ⟨⟨?_, by rw [hr 53 (by decide)]; exact h2, fun h hh l hl => ?_⟩, h4, h5, fun l hl => by rw [hr kw (by omega)]; exact h6 l hl, fun l hl => ?_⟩
  · obtain ⟨g1, g2, g3, g4, g5, g6, g7, g8, g9, g10, kh, a, b, c, d⟩ := h1
    have hkq : kh = q := by
      rw [h2] at b
      exact ((ih_eq (by omega) (by omega)).mp b).symm
    subst hkq
    refine ⟨g1, g2, g3, g4, rx_s_c g5 (fun s hs => ⟨hr _ (by omega), hr _ (by omega)⟩) ⟨rfl, rfl, rfl⟩, rx_k_c g6 (fun s hs => ⟨hr _ (by omega), hr _ (by omega)⟩) rfl, ?_, ?_, ?_, ?_, kh, a, ?_, fun l hl => ?_, fun q => ⟨(d q).1, fun h hh l hl => ?_⟩⟩
    · unfold rx_o; rw [hr 46 (by decide), hr 47 (by decide)]; exact g7
    · unfold rx_t; rw [hr 54 (by decide)]; exact g8
    · unfold rx_a; rw [hr 60 (by decide), hr 61 (by decide)]; exact g9
    · unfold rx_b; rw [hr 44 (by decide), hr 45 (by decide)]; exact g10
    · rw [hr 53 (by decide)]; exact h2
    · exact (ih_sI_j (by omega)).trans (c l hl)
    · exact (ih_sI_j (by omega)).trans ((d q).2 h hh l hl)
  · exact (ih_sI_j (by omega)).trans (h3 h hh l hl)
  · by_cases e : l = L
    · rw [e]; exact ih_sI_s
    · exact (ih_sI_j (by omega)).trans (h7 l (by omega))
theorem ih_LW_e {S : ih_Sg} {T : ih_TT} {q kw : Nat} (hq : q < 5) (hT : ih_HT T) (h : ih_LW S T q kw 19) : ih_GS (ih_sI S 53 4 (nI (q + 1))) T (q + 1) := by
  obtain ⟨⟨h1, h2, h3⟩, h4, h5, h6, h7⟩ := h
  have hr : ∀ k, k ≠ 53 → (ih_sI S 53 4 (nI (q + 1))).1 k = S.1 k := fun k hk => ih_sI_row hk
  have h8 : ∀ h, h ≤ q + 1 → ∀ L, L < 19 → S.1 55 (h * 19 + L) = nI (ih_st (ih_cg T) h L) := by
    intro h hh L hL
    by_cases e : h = q + 1
    · rw [e]; exact h7 L hL
    · exact h3 h (by omega) L hL
  refine ⟨?_, ih_sI_s, fun h hh L hL => by rw [hr 55 (by decide)]; exact h8 h hh L hL⟩
  obtain ⟨g1, g2, g3, g4, g5, g6, g7, g8, g9, g10, kh, a, b, c, d⟩ := h1
  refine ⟨g1, g2, g3, g4, rx_s_c g5 (fun s hs => ⟨hr _ (by omega), hr _ (by omega)⟩) ⟨rfl, rfl, rfl⟩, rx_k_c g6 (fun s hs => ⟨hr _ (by omega), hr _ (by omega)⟩) rfl, ?_, ?_, ?_, ?_, q + 1, by omega, ih_sI_s, fun l hl => by rw [hr 55 (by decide)]; exact c l hl, fun _ => ⟨hT, fun h hh l hl => by rw [hr 55 (by decide)]; exact h8 h hh l hl⟩⟩
  · unfold rx_o; rw [hr 46 (by decide), hr 47 (by decide)]; exact g7
  · unfold rx_t; rw [hr 54 (by decide)]; exact g8
  · unfold rx_a; rw [hr 60 (by decide), hr 61 (by decide)]; exact g9
  · unfold rx_b; rw [hr 44 (by decide), hr 45 (by decide)]; exact g10
theorem ih_win_no {cs : Nat → Nat → Nat} {h n L s : Nat} (hc : h = 0 ∨ n = 0 ∨ ¬ s < 24) : ih_win cs h n L s = ih_st cs (h - 1) L := by
  by_cases hz : h = 0
  · subst hz; rw [ih_win_0]
  · rw [ih_win_p (by omega)]
    by_cases hn0 : n = 0
    · subst hn0; rw [ih_half_z]
    · rw [ih_half_o (by omega)]
theorem ih_mx1 {h : Nat} (hh : h ≤ 5) : (if nI h - nI 1 < nI 0 then nI 0 else nI h - nI 1) = nI (h - 1) := by
  have : ∀ h, h ≤ 5 → (if nI h - nI 1 < nI 0 then nI 0 else nI h - nI 1) = nI (h - 1) := by decide +kernel
  exact this h hh
set_option maxHeartbeats 4000000 in
set_option maxRecDepth 100000 in
theorem c_X4_learnStarts (l : Launch) (w : ih_Wd) (S : ih_Sg) (T : ih_TT) (hX : ih_RX S T) (hI : ih_Inv T) (hT : ih_HT T) (hh : Nat) (hhb : hh ≤ 5) : ih_Cv l yX4_learnStarts wsX4_learnStarts 4 w ih_shX [.ref (w.2.2 53), .int (nI hh)] S (fun S' => ih_RX S' T ∧ ∀ L, L < 19 → S'.1 55 (hh * 19 + L) = nI (ih_st (ih_cg T) hh L)) := by
  refine ih_bodyv (ret := none) rfl rfl (Nat.le_of_ble_eq_true rfl) ?_
  intro x A hA C
  have C : ih_Ok x w A cX4_learnStarts 4 RX4 wsX4_learnStarts (ih_rm 4) (none) := C
  show ih_Mw x w ih_shX A (ih_Qv x w ih_shX A _) 4 0 0 0 [(0, .ref (w.2.2 53)), (1, .int (nI hh))] [] S
  obtain ⟨Q, hQ⟩ : ∃ Q, Q = ih_Qv x w ih_shX A (fun S' => ih_RX S' T ∧ ∀ L, L < 19 → S'.1 55 (hh * 19 + L) = nI (ih_st (ih_cg T) hh L)) := ⟨_, rfl⟩
  rw [show ih_Qv x w ih_shX A _ = Q from hQ.symm]
  obtain ⟨kh, hkh, hGS⟩ := ih_GS_of hX
  obtain ⟨me, hme⟩ : ∃ me, me = if kh ≤ hh then hh else kh := ⟨_, rfl⟩
  have hme1 : kh ≤ me ∧ hh ≤ me ∧ (kh < me → me = hh) ∧ me ≤ 5 := by rw [hme]; split <;> omega
  refine s_aload_n C 0 dX4_learnStarts_0 rfl ?_
  refine s_getI C 4 4 (by decide) rfl (by decide) rfl (fun _ h => List.mem_cons_of_mem _ (List.mem_append_left _ (List.mem_append_left _ (List.mem_append_right _ h)))) (by decide) rfl (by decide +kernel) dX4_learnStarts_1 ?_
  refine s_toe (b := nI kh) hGS.2.1 ?_
  refine s_iconst (v := nI 1) C dX4_learnStarts_4 (by decide) ?_
  refine s_iaddN C dX4_learnStarts_5 ?_
  refine s_istore_n (lv' := [(2, .int (nI (kh + 1))), (0, .ref (w.2.2 53)), (1, .int (nI hh))]) C dX4_learnStarts_6 rfl (by decide) rfl ?_
  have hx_7 : ∀ S, (ih_GS S T (me) ∧ kh ≤ me) → ih_Mw x w ih_shX A Q 4 0 0 64 [(0, .ref (w.2.2 53))] [] S := by
    intro S ⟨hE, hkq⟩
    rw [hQ]
    exact s_vreturn C hA dX4_learnStarts_64 ⟨hE.1, fun L hL => hE.2.2 hh (by omega) L hL⟩
  have loop_7 : ∀ (fu q : Nat), q + fu = me → ∀ S, (ih_GS S T (q) ∧ kh ≤ q) → ih_Mw x w ih_shX A Q 4 0 0 7 [(0, .ref (w.2.2 53)), (1, .int (nI hh)), (2, .int (nI (q + 1)))] [] S := by
    intro fu
    induction fu with
    | zero =>
      intro q hqe S ⟨hE, hkq⟩
      have hq0 : q = me := by omega
      refine s_iload_n C 2 dX4_learnStarts_7 rfl ?_
      refine s_iload_n C 1 dX4_learnStarts_8 rfl ?_
      refine s_icmp_gtN 64 C dX4_learnStarts_9 (by decide) (by omega) (by omega) (fun h9 => ?_) (fun h9 => ?_)
      · refine s_perm [0] rfl ?_
        subst hq0
        exact hx_7 _ ⟨hE, hkq⟩
      · exfalso; omega
    | succ fu ih_7 =>
      intro q hqe S ⟨hE, hkq⟩
      have hql : q < me := by omega
      refine s_iload_n C 2 dX4_learnStarts_7 rfl ?_
      refine s_iload_n C 1 dX4_learnStarts_8 rfl ?_
      refine s_icmp_gtN 64 C dX4_learnStarts_9 (by decide) (by omega) (by omega) (fun h9 => ?_) (fun h9 => ?_)
      · exfalso; omega
      · refine s_aload_n C 0 dX4_learnStarts_12 rfl ?_
        refine s_iload_n C 2 dX4_learnStarts_13 rfl ?_
        refine s_bipush (v := nI 12) C dX4_learnStarts_14 (by decide) ?_
        refine s_callVv 2 C (c_X4_fillHalf _ w _ T hE.1 hI hT (q + 1) 12 (by omega) (by omega) (by omega) (fun L hL => hE.2.2 q (Nat.le_refl q) L hL)) gX4_learnStarts_X4_fillHalf rfl (by decide +kernel) (by decide) (by decide) (by decide) rfl (by decide) rfl rfl rfl (Nat.le_of_ble_eq_true rfl) dX4_learnStarts_16 ?_
        rintro S5 ⟨kw, kv, hF⟩
        have hkwd : ih_shX.1 kw = 9 := by rcases hF.2.2.2.2.1 with ⟨rfl, rfl⟩ | ⟨rfl, rfl⟩ <;> rfl
        have hkwl : ih_shX.2.1 kw = 475 := by rcases hF.2.2.2.2.1 with ⟨rfl, rfl⟩ | ⟨rfl, rfl⟩ <;> rfl
        have hkw56 := hF.2.2.2.2.1
        refine s_iconst (v := nI 0) C dX4_learnStarts_19 (by decide) ?_
        refine s_istore_n (lv' := [(3, .int (nI 0)), (0, .ref (w.2.2 53)), (1, .int (nI hh)), (2, .int (nI (q + 1)))]) C dX4_learnStarts_20 rfl (by decide) rfl ?_
        have hx_21 : ∀ S, ih_LW S T q kw (19) → ih_Mw x w ih_shX A Q 4 0 0 53 [(0, .ref (w.2.2 53)), (1, .int (nI hh)), (2, .int (nI (q + 1)))] [] S := by
          intro S hE
          refine s_aload_n C 0 dX4_learnStarts_53 rfl ?_
          refine s_iload_n C 2 dX4_learnStarts_54 rfl ?_
          refine s_putI (ty := .int) C 4 4 tyX4 tyX4_ok nmX4 (by decide) rfl (by decide) rfl (fun _ h => List.mem_cons_of_mem _ (List.mem_append_left _ (List.mem_append_left _ (List.mem_append_right _ h)))) (by decide) rfl (by decide +kernel) rfl (by decide +kernel) rfl rfl dX4_learnStarts_55 ?_
          refine s_iinc (u := nI (q + 1 + 1)) (lv' := [(2, .int (nI (q + 1 + 1))), (0, .ref (w.2.2 53)), (1, .int (nI hh))]) C 2 dX4_learnStarts_58 rfl (ih_incN (by decide)) (by decide) rfl ?_
          refine s_goto C 7 dX4_learnStarts_61 (by decide) ?_
          refine s_perm [1, 2, 0] rfl ?_
          exact ih_7 (q + 1) (by omega) _ ⟨ih_LW_e (by omega) hT hE, by omega⟩
        have loop_21 : ∀ (fu Lv : Nat), Lv + fu = 19 → ∀ S, ih_LW S T q kw (Lv) → ih_Mw x w ih_shX A Q 4 0 0 21 [(0, .ref (w.2.2 53)), (1, .int (nI hh)), (2, .int (nI (q + 1))), (3, .int (nI Lv))] [] S := by
          intro fu
          induction fu with
          | zero =>
            intro Lv hLve S hE
            have hLv0 : Lv = 19 := by omega
            refine s_iload_n C 3 dX4_learnStarts_21 rfl ?_
            refine s_bipush (v := nI 19) C dX4_learnStarts_22 (by decide) ?_
            refine s_icmp_geN 53 C dX4_learnStarts_24 (by decide) (by omega) (by omega) (fun h24 => ?_) (fun h24 => ?_)
            · refine s_perm [0, 1, 2] rfl ?_
              subst hLv0
              exact hx_21 _ hE
            · exfalso; omega
          | succ fu ih_21 =>
            intro Lv hLve S hE
            have hLvl : Lv < 19 := by omega
            refine s_iload_n C 3 dX4_learnStarts_21 rfl ?_
            refine s_bipush (v := nI 19) C dX4_learnStarts_22 (by decide) ?_
            refine s_icmp_geN 53 C dX4_learnStarts_24 (by decide) (by omega) (by omega) (fun h24 => ?_) (fun h24 => ?_)
            · exfalso; omega
            · refine s_aload_n C 0 dX4_learnStarts_27 rfl ?_
              refine s_getR C 4 3 (hE.1.1.1 _ _ _ rfl) (by decide) rfl (by decide) rfl (fun _ h => List.mem_cons_of_mem _ (List.mem_append_left _ (List.mem_append_left _ (List.mem_append_right _ h)))) (by decide) rfl (by decide +kernel) dX4_learnStarts_28 ?_
              refine s_iload_n C 2 dX4_learnStarts_31 rfl ?_
              refine s_bipush (v := nI 19) C dX4_learnStarts_32 (by decide) ?_
              refine s_imulN C dX4_learnStarts_34 ?_
              refine s_iload_n C 3 dX4_learnStarts_35 rfl ?_
              refine s_iaddN C dX4_learnStarts_36 ?_
              refine s_aload_n C 0 dX4_learnStarts_37 rfl ?_
              refine s_getR C 4 5 hE.2.2.1 (by decide) rfl (by decide) rfl (fun _ h => List.mem_cons_of_mem _ (List.mem_append_left _ (List.mem_append_left _ (List.mem_append_right _ h)))) (by decide) rfl (by decide +kernel) dX4_learnStarts_38 ?_
              refine s_iload_n C 3 dX4_learnStarts_41 rfl ?_
              refine s_bipush (v := nI 25) C dX4_learnStarts_42 (by decide) ?_
              refine s_imulN C dX4_learnStarts_44 ?_
              refine s_iaload C 475 (Lv * 25) rfl hkwl (by omega) (by decide) (show kw < 62 by omega) hkwd dX4_learnStarts_45 ?_
              refine s_toe (b := nI (ih_st (ih_cg T) (q + 1) Lv)) (hE.2.2.2.1 Lv (by omega)) ?_
              refine s_iastore C 114 (((q + 1) * 19) + Lv) rfl rfl (by omega) (by decide) (by decide) rfl dX4_learnStarts_46 ?_
              refine s_iinc (u := nI (Lv + 1)) (lv' := [(3, .int (nI (Lv + 1))), (0, .ref (w.2.2 53)), (1, .int (nI hh)), (2, .int (nI (q + 1)))]) C 3 dX4_learnStarts_47 rfl (ih_incN (by decide)) (by decide) rfl ?_
              refine s_goto C 21 dX4_learnStarts_50 (by decide) ?_
              refine s_perm [1, 2, 3, 0] rfl ?_
              exact ih_21 (Lv + 1) (by omega) _ (ih_LW_w (by omega) hE (by omega))
        refine s_perm [1, 2, 3, 0] rfl ?_
        exact loop_21 19 0 (by omega) _ (ih_LW_0 hE hF)
  refine s_perm [1, 2, 0] rfl ?_
  exact loop_7 (me - kh) kh (by omega) _ ⟨hGS, Nat.le_refl kh⟩

set_option maxHeartbeats 4000000 in
set_option maxRecDepth 100000 in
theorem c_X4_told (l : Launch) (w : ih_Wd) (S : ih_Sg) (T : ih_TT) (hX : ih_RX S T) (hI : ih_Inv T) (hT : ih_HT T) (h L s n wn : Nat) (hh : h ≤ 5) (hL : L ≤ 18) (hs : s < 25) (hn : n ≤ 12) (hwn : wn < 3) : ih_Ci l yX4_told wsX4_told 5 w ih_shX [.ref (w.2.2 53), .int (nI h), .int (nI L - nI 9), .int (nI s), .int (nI n), .int (nI wn)] S (fun r S' => r = (if wn = 0 then nI (ih_win (ih_cg T) h n L s) else if wn = 1 then ih_chc (ih_cg T) h n L s else if h = 0 ∨ n = 0 ∨ ¬ s < 24 then nI 0 else if ih_sb (1 - h % 2) (ih_win (ih_cg T) h n L s) (ih_beh (ih_cg T (h % 2)) (h % 2) (ih_st (ih_cg T) (h - 1)) (n - 1) L s 1) = true then nI 1 else nI 0) ∧ ih_RX S' T) := by
  refine ih_bodyi (ret := some .int) rfl rfl (Nat.le_of_ble_eq_true rfl) ?_
  intro x A hA C
  have C : ih_Ok x w A cX4_told 9 RX4 wsX4_told (ih_rm 5) (some .int) := C
  show ih_Mw x w ih_shX A (ih_Qi x w ih_shX A _) 9 0 0 0 [(0, .ref (w.2.2 53)), (1, .int (nI h)), (2, .int (nI L - nI 9)), (3, .int (nI s)), (4, .int (nI n)), (5, .int (nI wn))] [] S
  refine s_iload_n C 2 dX4_told_0 rfl ?_
  refine s_bipush (v := nI 9) C dX4_told_1 (by decide) ?_
  refine s_iadd C dX4_told_3  ?_
  refine s_toe (b := nI L) (Int32.sub_add_cancel _ _) ?_
  refine s_istore (lv' := [(6, .int (nI L)), (0, .ref (w.2.2 53)), (1, .int (nI h)), (2, .int (nI L - nI 9)), (3, .int (nI s)), (4, .int (nI n)), (5, .int (nI wn))]) C dX4_told_4 (by decide) rfl ?_
  refine s_iload_n C 2 dX4_told_6 rfl ?_
  refine s_if_eqN 21 C dX4_told_7 (by decide) (by omega) (fun h7 => ?_) (fun h7 => ?_)
  · refine s_iconst (v := nI 1) C dX4_told_21 (by decide) ?_
    refine s_goto C 26 dX4_told_22 (by decide) ?_
    refine s_istore (lv' := [(7, .int (nI 1)), (6, .int (nI L)), (0, .ref (w.2.2 53)), (1, .int (nI h)), (2, .int (nI L - nI 9)), (3, .int (nI s)), (4, .int (nI n)), (5, .int (nI wn))]) C dX4_told_26 (by decide) rfl ?_
    refine s_iload C 0 dX4_told_28 rfl ?_
    refine s_if_eqN 51 C dX4_told_30 (by decide) (by omega) (fun h30 => ?_) (fun h30 => ?_)
    · exact absurd h30 (by decide)
    · refine s_iload C 7 dX4_told_33 rfl ?_
      refine s_if_eqN 51 C dX4_told_35 (by decide) (by omega) (fun h35 => ?_) (fun h35 => ?_)
      · refine s_iload_n C 3 dX4_told_51 rfl ?_
        refine s_iconst (v := nI 1) C dX4_told_52 (by decide) ?_
        refine s_isub C dX4_told_53  ?_
        refine s_iconst (v := nI 0) C dX4_told_54 (by decide) ?_
        refine s_mmax C (by decide +kernel) (by decide +kernel) (by decide +kernel) (by decide +kernel) (by decide) (by decide) (by decide) dX4_told_55 ?_
        refine s_toe (ih_mx1 hh) ?_
        refine s_istore (lv' := [(8, .int (nI (h - 1))), (7, .int (nI 1)), (6, .int (nI L)), (0, .ref (w.2.2 53)), (1, .int (nI h)), (2, .int (nI L - nI 9)), (3, .int (nI s)), (4, .int (nI n)), (5, .int (nI wn))]) C dX4_told_58 (by decide) rfl ?_
        refine s_aload_n C 3 dX4_told_60 rfl ?_
        refine s_iload C 0 dX4_told_61 rfl ?_
        refine s_callVv 1 C (c_X4_learnStarts _ w _ T hX hI hT (h - 1) (by omega)) gX4_told_X4_learnStarts rfl (by decide +kernel) (by decide) (by decide) (by decide) rfl (by decide) rfl rfl rfl (Nat.le_of_ble_eq_true rfl) dX4_told_63 ?_
        rintro S ⟨hX, hst⟩
        refine s_iload C 1 dX4_told_66 rfl ?_
        refine s_if_eqN 85 C dX4_told_68 (by decide) (by omega) (fun h68 => ?_) (fun h68 => ?_)
        · exact absurd h68 (by decide)
        · refine s_aload_n C 3 dX4_told_71 rfl ?_
          refine s_getR C 4 3 (hX.1 _ _ _ rfl) (by decide) rfl (by decide) rfl (fun _ h => List.mem_cons_of_mem _ (List.mem_append_left _ (List.mem_append_left _ (List.mem_append_right _ h)))) (by decide) rfl (by decide +kernel) dX4_told_72 ?_
          refine s_iload C 0 dX4_told_75 rfl ?_
          refine s_bipush (v := nI 19) C dX4_told_77 (by decide) ?_
          refine s_imulN C dX4_told_79 ?_
          refine s_iload C 2 dX4_told_80 rfl ?_
          refine s_iaddN C dX4_told_82 ?_
          refine s_iaload C 114 (((h - 1) * 19) + L) rfl rfl (by omega) (by decide) (by decide) rfl dX4_told_83 ?_
          refine s_toe (b := nI (ih_st (ih_cg T) (h - 1) L)) (hst L (by omega)) ?_
          exact s_ireturn C hA dX4_told_84 ⟨by rw [if_pos (by omega), ih_win_no (by omega)], hX⟩
      · refine s_iload C 7 dX4_told_38 rfl ?_
        refine s_iconst (v := nI 1) C dX4_told_40 (by decide) ?_
        refine s_icmp_neN 49 C dX4_told_41 (by decide) (by omega) (by omega) (fun h41 => ?_) (fun h41 => ?_)
        · refine s_iconst (v := nI 0) C dX4_told_49 (by decide) ?_
          exact s_ireturn C hA dX4_told_50 ⟨by rw [if_neg (by omega), if_neg (by omega), if_pos (by omega)], hX⟩
        · refine s_ldc (v := (-1000000)) C (by decide +kernel) dX4_told_44 ?_
          refine s_goto C 50 dX4_told_46 (by decide) ?_
          exact s_ireturn C hA dX4_told_50 ⟨by rw [if_neg (by omega), if_pos (by omega), ih_chc, if_pos (by omega)], hX⟩
  · refine s_iload_n C 4 dX4_told_10 rfl ?_
    refine s_bipush (v := nI 24) C dX4_told_11 (by decide) ?_
    refine s_icmp_eqN 21 C dX4_told_13 (by decide) (by omega) (by omega) (fun h13 => ?_) (fun h13 => ?_)
    · refine s_iconst (v := nI 1) C dX4_told_21 (by decide) ?_
      refine s_goto C 26 dX4_told_22 (by decide) ?_
      refine s_istore (lv' := [(7, .int (nI 1)), (6, .int (nI L)), (0, .ref (w.2.2 53)), (1, .int (nI h)), (2, .int (nI L - nI 9)), (3, .int (nI s)), (4, .int (nI n)), (5, .int (nI wn))]) C dX4_told_26 (by decide) rfl ?_
      refine s_iload C 0 dX4_told_28 rfl ?_
      refine s_if_eqN 51 C dX4_told_30 (by decide) (by omega) (fun h30 => ?_) (fun h30 => ?_)
      · exact absurd h30 (by decide)
      · refine s_iload C 7 dX4_told_33 rfl ?_
        refine s_if_eqN 51 C dX4_told_35 (by decide) (by omega) (fun h35 => ?_) (fun h35 => ?_)
        · refine s_iload_n C 3 dX4_told_51 rfl ?_
          refine s_iconst (v := nI 1) C dX4_told_52 (by decide) ?_
          refine s_isub C dX4_told_53  ?_
          refine s_iconst (v := nI 0) C dX4_told_54 (by decide) ?_
          refine s_mmax C (by decide +kernel) (by decide +kernel) (by decide +kernel) (by decide +kernel) (by decide) (by decide) (by decide) dX4_told_55 ?_
          refine s_toe (ih_mx1 hh) ?_
          refine s_istore (lv' := [(8, .int (nI (h - 1))), (7, .int (nI 1)), (6, .int (nI L)), (0, .ref (w.2.2 53)), (1, .int (nI h)), (2, .int (nI L - nI 9)), (3, .int (nI s)), (4, .int (nI n)), (5, .int (nI wn))]) C dX4_told_58 (by decide) rfl ?_
          refine s_aload_n C 3 dX4_told_60 rfl ?_
          refine s_iload C 0 dX4_told_61 rfl ?_
          refine s_callVv 1 C (c_X4_learnStarts _ w _ T hX hI hT (h - 1) (by omega)) gX4_told_X4_learnStarts rfl (by decide +kernel) (by decide) (by decide) (by decide) rfl (by decide) rfl rfl rfl (Nat.le_of_ble_eq_true rfl) dX4_told_63 ?_
          rintro S ⟨hX, hst⟩
          refine s_iload C 1 dX4_told_66 rfl ?_
          refine s_if_eqN 85 C dX4_told_68 (by decide) (by omega) (fun h68 => ?_) (fun h68 => ?_)
          · exact absurd h68 (by decide)
          · refine s_aload_n C 3 dX4_told_71 rfl ?_
            refine s_getR C 4 3 (hX.1 _ _ _ rfl) (by decide) rfl (by decide) rfl (fun _ h => List.mem_cons_of_mem _ (List.mem_append_left _ (List.mem_append_left _ (List.mem_append_right _ h)))) (by decide) rfl (by decide +kernel) dX4_told_72 ?_
            refine s_iload C 0 dX4_told_75 rfl ?_
            refine s_bipush (v := nI 19) C dX4_told_77 (by decide) ?_
            refine s_imulN C dX4_told_79 ?_
            refine s_iload C 2 dX4_told_80 rfl ?_
            refine s_iaddN C dX4_told_82 ?_
            refine s_iaload C 114 (((h - 1) * 19) + L) rfl rfl (by omega) (by decide) (by decide) rfl dX4_told_83 ?_
            refine s_toe (b := nI (ih_st (ih_cg T) (h - 1) L)) (hst L (by omega)) ?_
            exact s_ireturn C hA dX4_told_84 ⟨by rw [if_pos (by omega), ih_win_no (by omega)], hX⟩
        · refine s_iload C 7 dX4_told_38 rfl ?_
          refine s_iconst (v := nI 1) C dX4_told_40 (by decide) ?_
          refine s_icmp_neN 49 C dX4_told_41 (by decide) (by omega) (by omega) (fun h41 => ?_) (fun h41 => ?_)
          · refine s_iconst (v := nI 0) C dX4_told_49 (by decide) ?_
            exact s_ireturn C hA dX4_told_50 ⟨by rw [if_neg (by omega), if_neg (by omega), if_pos (by omega)], hX⟩
          · refine s_ldc (v := (-1000000)) C (by decide +kernel) dX4_told_44 ?_
            refine s_goto C 50 dX4_told_46 (by decide) ?_
            exact s_ireturn C hA dX4_told_50 ⟨by rw [if_neg (by omega), if_pos (by omega), ih_chc, if_pos (by omega)], hX⟩
    · refine s_iload C 5 dX4_told_16 rfl ?_
      refine s_if_neN 25 C dX4_told_18 (by decide) (by omega) (fun h18 => ?_) (fun h18 => ?_)
      · refine s_iconst (v := nI 0) C dX4_told_25 (by decide) ?_
        refine s_istore (lv' := [(7, .int (nI 0)), (6, .int (nI L)), (0, .ref (w.2.2 53)), (1, .int (nI h)), (2, .int (nI L - nI 9)), (3, .int (nI s)), (4, .int (nI n)), (5, .int (nI wn))]) C dX4_told_26 (by decide) rfl ?_
        refine s_iload C 0 dX4_told_28 rfl ?_
        refine s_if_eqN 51 C dX4_told_30 (by decide) (by omega) (fun h30 => ?_) (fun h30 => ?_)
        · refine s_iload_n C 3 dX4_told_51 rfl ?_
          refine s_iconst (v := nI 1) C dX4_told_52 (by decide) ?_
          refine s_isub C dX4_told_53  ?_
          refine s_iconst (v := nI 0) C dX4_told_54 (by decide) ?_
          refine s_mmax C (by decide +kernel) (by decide +kernel) (by decide +kernel) (by decide +kernel) (by decide) (by decide) (by decide) dX4_told_55 ?_
          refine s_toe (ih_mx1 hh) ?_
          refine s_istore (lv' := [(8, .int (nI (h - 1))), (7, .int (nI 0)), (6, .int (nI L)), (0, .ref (w.2.2 53)), (1, .int (nI h)), (2, .int (nI L - nI 9)), (3, .int (nI s)), (4, .int (nI n)), (5, .int (nI wn))]) C dX4_told_58 (by decide) rfl ?_
          refine s_aload_n C 3 dX4_told_60 rfl ?_
          refine s_iload C 0 dX4_told_61 rfl ?_
          refine s_callVv 1 C (c_X4_learnStarts _ w _ T hX hI hT (h - 1) (by omega)) gX4_told_X4_learnStarts rfl (by decide +kernel) (by decide) (by decide) (by decide) rfl (by decide) rfl rfl rfl (Nat.le_of_ble_eq_true rfl) dX4_told_63 ?_
          rintro S ⟨hX, hst⟩
          refine s_iload C 1 dX4_told_66 rfl ?_
          refine s_if_eqN 85 C dX4_told_68 (by decide) (by omega) (fun h68 => ?_) (fun h68 => ?_)
          · refine s_aload_n C 3 dX4_told_85 rfl ?_
            refine s_iload_n C 4 dX4_told_86 rfl ?_
            refine s_iload C 7 dX4_told_87 rfl ?_
            refine s_callVv 2 C (c_X4_fillHalf _ w _ T hX hI hT h n (by omega) hh hn hst) gX4_told_X4_fillHalf rfl (by decide +kernel) (by decide) (by decide) (by decide) rfl (by decide) rfl rfl rfl (Nat.le_of_ble_eq_true rfl) dX4_told_89 ?_
            rintro S5 ⟨kw, kv, hF⟩
            have hkwd : ih_shX.1 kw = 9 := by rcases hF.2.2.2.2.1 with ⟨rfl, rfl⟩ | ⟨rfl, rfl⟩ <;> rfl
            have hkwl : ih_shX.2.1 kw = 475 := by rcases hF.2.2.2.2.1 with ⟨rfl, rfl⟩ | ⟨rfl, rfl⟩ <;> rfl
            have hkw56 := hF.2.2.2.2.1
            refine s_iload C 8 dX4_told_92 rfl ?_
            refine s_if_neN 110 C dX4_told_94 (by decide) (by omega) (fun h94 => ?_) (fun h94 => ?_)
            · refine s_iload C 8 dX4_told_110 rfl ?_
              refine s_iconst (v := nI 1) C dX4_told_112 (by decide) ?_
              refine s_icmp_neN 126 C dX4_told_113 (by decide) (by omega) (by omega) (fun h113 => ?_) (fun h113 => ?_)
              · refine s_aload_n C 3 dX4_told_126 rfl ?_
                refine s_iload C 2 dX4_told_127 rfl ?_
                refine s_iload_n C 6 dX4_told_129 rfl ?_
                refine s_callVi 2 C (c_X4_walkIsBetter _ w _ T hI hT (h % 2) kv (n - 1) (ih_st (ih_cg T) (h - 1)) ⟨hF.1, by omega, by omega, hF.2.2.2.2.2.2.1, hF.2.2.2.1, ih_st_le (ih_cg_ok hI hT) (h - 1), hF.2.2.2.2.2.2.2.2.2 (by omega)⟩ L s hL (by omega) kw (by omega) hF.2.2.2.2.2.1 (by have q := hF.2.2.2.2.2.2.2.1 L s hL (by omega); rw [show n = n - 1 + 1 by omega] at q; exact q)) gX4_told_X4_walkIsBetter rfl (by decide +kernel) (by decide) (by decide) (by decide) rfl (by decide) rfl rfl rfl (Nat.le_of_ble_eq_true rfl) dX4_told_130 ?_
                rintro rb S2 ⟨hrb, hSS⟩
                obtain rfl := hSS
                exact s_ireturn C hA dX4_told_133 ⟨by rw [if_neg (by omega), if_neg (by omega), if_neg (by omega), ih_win_p (by omega)]; rw [hrb, show n - 1 + 1 = n by omega], hF.1⟩
              · refine s_aload_n C 3 dX4_told_116 rfl ?_
                refine s_iload C 2 dX4_told_117 rfl ?_
                refine s_iload_n C 6 dX4_told_119 rfl ?_
                refine s_callVi 2 C (c_X4_choiceAt _ w _ T hI hT (h % 2) kv (n - 1) (ih_st (ih_cg T) (h - 1)) ⟨hF.1, by omega, by omega, hF.2.2.2.2.2.2.1, hF.2.2.2.1, ih_st_le (ih_cg_ok hI hT) (h - 1), hF.2.2.2.2.2.2.2.2.2 (by omega)⟩ L s hL (by omega) kw (by omega) hF.2.2.2.2.2.1 (by have q := hF.2.2.2.2.2.2.2.1 L s hL (by omega); rw [show n = n - 1 + 1 by omega] at q; exact q)) gX4_told_X4_choiceAt rfl (by decide +kernel) (by decide) (by decide) (by decide) rfl (by decide) rfl rfl rfl (Nat.le_of_ble_eq_true rfl) dX4_told_120 ?_
                rintro rc S2 ⟨hrc, hSS⟩
                obtain rfl := hSS
                refine s_goto C 133 dX4_told_123 (by decide) ?_
                exact s_ireturn C hA dX4_told_133 ⟨by rw [if_neg (by omega), if_pos (by omega), ih_chc, if_neg (by omega)]; exact hrc, hF.1⟩
            · refine s_aload_n C 3 dX4_told_97 rfl ?_
              refine s_getR C 4 5 hF.2.2.2.2.2.1 (by decide) rfl (by decide) rfl (fun _ h => List.mem_cons_of_mem _ (List.mem_append_left _ (List.mem_append_left _ (List.mem_append_right _ h)))) (by decide) rfl (by decide +kernel) dX4_told_98 ?_
              refine s_iload C 2 dX4_told_101 rfl ?_
              refine s_bipush (v := nI 25) C dX4_told_103 (by decide) ?_
              refine s_imulN C dX4_told_105 ?_
              refine s_iload_n C 6 dX4_told_106 rfl ?_
              refine s_iaddN C dX4_told_107 ?_
              refine s_iaload C 475 ((L * 25) + s) rfl hkwl (by omega) (by decide) (show kw < 62 by omega) hkwd dX4_told_108 ?_
              refine s_toe (b := nI (ih_hf T h n L s)) (hF.2.2.2.2.2.2.2.1 L s hL hs) ?_
              exact s_ireturn C hA dX4_told_109 ⟨by rw [if_pos (by omega), ih_win_p (by omega)]; rfl, hF.1⟩
          · exact absurd h68 (by decide)
        · exact absurd h30 (by decide)
      · refine s_iconst (v := nI 1) C dX4_told_21 (by decide) ?_
        refine s_goto C 26 dX4_told_22 (by decide) ?_
        refine s_istore (lv' := [(7, .int (nI 1)), (6, .int (nI L)), (0, .ref (w.2.2 53)), (1, .int (nI h)), (2, .int (nI L - nI 9)), (3, .int (nI s)), (4, .int (nI n)), (5, .int (nI wn))]) C dX4_told_26 (by decide) rfl ?_
        refine s_iload C 0 dX4_told_28 rfl ?_
        refine s_if_eqN 51 C dX4_told_30 (by decide) (by omega) (fun h30 => ?_) (fun h30 => ?_)
        · exact absurd h30 (by decide)
        · refine s_iload C 7 dX4_told_33 rfl ?_
          refine s_if_eqN 51 C dX4_told_35 (by decide) (by omega) (fun h35 => ?_) (fun h35 => ?_)
          · refine s_iload_n C 3 dX4_told_51 rfl ?_
            refine s_iconst (v := nI 1) C dX4_told_52 (by decide) ?_
            refine s_isub C dX4_told_53  ?_
            refine s_iconst (v := nI 0) C dX4_told_54 (by decide) ?_
            refine s_mmax C (by decide +kernel) (by decide +kernel) (by decide +kernel) (by decide +kernel) (by decide) (by decide) (by decide) dX4_told_55 ?_
            refine s_toe (ih_mx1 hh) ?_
            refine s_istore (lv' := [(8, .int (nI (h - 1))), (7, .int (nI 1)), (6, .int (nI L)), (0, .ref (w.2.2 53)), (1, .int (nI h)), (2, .int (nI L - nI 9)), (3, .int (nI s)), (4, .int (nI n)), (5, .int (nI wn))]) C dX4_told_58 (by decide) rfl ?_
            refine s_aload_n C 3 dX4_told_60 rfl ?_
            refine s_iload C 0 dX4_told_61 rfl ?_
            refine s_callVv 1 C (c_X4_learnStarts _ w _ T hX hI hT (h - 1) (by omega)) gX4_told_X4_learnStarts rfl (by decide +kernel) (by decide) (by decide) (by decide) rfl (by decide) rfl rfl rfl (Nat.le_of_ble_eq_true rfl) dX4_told_63 ?_
            rintro S ⟨hX, hst⟩
            refine s_iload C 1 dX4_told_66 rfl ?_
            refine s_if_eqN 85 C dX4_told_68 (by decide) (by omega) (fun h68 => ?_) (fun h68 => ?_)
            · exact absurd h68 (by decide)
            · refine s_aload_n C 3 dX4_told_71 rfl ?_
              refine s_getR C 4 3 (hX.1 _ _ _ rfl) (by decide) rfl (by decide) rfl (fun _ h => List.mem_cons_of_mem _ (List.mem_append_left _ (List.mem_append_left _ (List.mem_append_right _ h)))) (by decide) rfl (by decide +kernel) dX4_told_72 ?_
              refine s_iload C 0 dX4_told_75 rfl ?_
              refine s_bipush (v := nI 19) C dX4_told_77 (by decide) ?_
              refine s_imulN C dX4_told_79 ?_
              refine s_iload C 2 dX4_told_80 rfl ?_
              refine s_iaddN C dX4_told_82 ?_
              refine s_iaload C 114 (((h - 1) * 19) + L) rfl rfl (by omega) (by decide) (by decide) rfl dX4_told_83 ?_
              refine s_toe (b := nI (ih_st (ih_cg T) (h - 1) L)) (hst L (by omega)) ?_
              exact s_ireturn C hA dX4_told_84 ⟨by rw [if_pos (by omega), ih_win_no (by omega)], hX⟩
          · refine s_iload C 7 dX4_told_38 rfl ?_
            refine s_iconst (v := nI 1) C dX4_told_40 (by decide) ?_
            refine s_icmp_neN 49 C dX4_told_41 (by decide) (by omega) (by omega) (fun h41 => ?_) (fun h41 => ?_)
            · refine s_iconst (v := nI 0) C dX4_told_49 (by decide) ?_
              exact s_ireturn C hA dX4_told_50 ⟨by rw [if_neg (by omega), if_neg (by omega), if_pos (by omega)], hX⟩
            · refine s_ldc (v := (-1000000)) C (by decide +kernel) dX4_told_44 ?_
              refine s_goto C 50 dX4_told_46 (by decide) ?_
              exact s_ireturn C hA dX4_told_50 ⟨by rw [if_neg (by omega), if_pos (by omega), ih_chc, if_pos (by omega)], hX⟩

set_option maxHeartbeats 4000000 in
set_option maxRecDepth 100000 in
theorem c_X7_game (l : Launch) (w : ih_Wd) (S : ih_Sg) (T : ih_TT) (hX : ih_RX S T) (hI : ih_Inv T) (h l_ s n w_ : Int32) : ih_Ci l yX7_game wsX7_game 6 w ih_shX [.ref (w.2.2 0), .int h, .int l_, .int s, .int n, .int w_] S (fun r S' => r = sp_game T h l_ s n w_ ∧ ih_RX S' T) := by
  refine ih_bodyi (ret := some .int) rfl rfl (Nat.le_of_ble_eq_true rfl) ?_
  intro x A hA C
  have C : ih_Ok x w A cX7_game 6 RX7 wsX7_game (ih_rm 6) (some .int) := C
  show ih_Mw x w ih_shX A (ih_Qi x w ih_shX A _) 6 0 0 0 [(0, .ref (w.2.2 0)), (1, .int h), (2, .int l_), (3, .int s), (4, .int n), (5, .int w_)] [] S
  have hct : ih_ct T ≤ 12 := hI.2.1.2.1
  have hp := hX.1
  refine s_iload_n C 1 dX7_game_0 rfl ?_
  refine s_iconst (v := nI 0) C dX7_game_1 (by decide) ?_
  refine s_iconst (v := nI 5) C dX7_game_2 (by decide) ?_
  refine s_callSi 3 C (c_X7_within _ w _ _ _ _ _) gX7_game_X7_within rfl (by decide +kernel) (by decide) (by decide) rfl rfl (Nat.le_of_ble_eq_true rfl) dX7_game_3 ?_
  rintro rw3 S2 ⟨hrw3, hSS⟩
  obtain rfl := hSS.symm
  rw [ih_t (by decide), ih_t (by decide)] at hrw3
  refine s_if_eq C 51 dX7_game_6 (by decide) (fun h6 => ?_) (fun h6 => ?_)
  · replace h6 := ih_b0 hrw3 h6
    refine s_ldc (v := (-1000001)) C (by decide +kernel) dX7_game_51 ?_
    exact s_ireturn C hA dX7_game_53 (by rw [sp_game, if_neg (by omega)]; exact ⟨rfl, hX⟩)
  · replace h6 := ih_b1 hrw3 h6
    refine s_iload_n C 2 dX7_game_9 rfl ?_
    refine s_bipush (v := (-9)) C dX7_game_10 (by decide) ?_
    refine s_bipush (v := nI 9) C dX7_game_12 (by decide) ?_
    refine s_callSi 3 C (c_X7_within _ w _ _ _ _ _) gX7_game_X7_within rfl (by decide +kernel) (by decide) (by decide) rfl rfl (Nat.le_of_ble_eq_true rfl) dX7_game_14 ?_
    rintro rw14 S2 ⟨hrw14, hSS⟩
    obtain rfl := hSS.symm
    rw [show ((-9 : Int32)).toInt = -9 from rfl, ih_t (by decide)] at hrw14
    refine s_if_eq C 51 dX7_game_17 (by decide) (fun h17 => ?_) (fun h17 => ?_)
    · replace h17 := ih_b0 hrw14 h17
      refine s_ldc (v := (-1000001)) C (by decide +kernel) dX7_game_51 ?_
      exact s_ireturn C hA dX7_game_53 (by rw [sp_game, if_neg (by omega)]; exact ⟨rfl, hX⟩)
    · replace h17 := ih_b1 hrw14 h17
      refine s_iload_n C 3 dX7_game_20 rfl ?_
      refine s_iconst (v := nI 0) C dX7_game_21 (by decide) ?_
      refine s_bipush (v := nI 24) C dX7_game_22 (by decide) ?_
      refine s_callSi 3 C (c_X7_within _ w _ _ _ _ _) gX7_game_X7_within rfl (by decide +kernel) (by decide) (by decide) rfl rfl (Nat.le_of_ble_eq_true rfl) dX7_game_24 ?_
      rintro rw24 S2 ⟨hrw24, hSS⟩
      obtain rfl := hSS.symm
      rw [ih_t (by decide), ih_t (by decide)] at hrw24
      refine s_if_eq C 51 dX7_game_27 (by decide) (fun h27 => ?_) (fun h27 => ?_)
      · replace h27 := ih_b0 hrw24 h27
        refine s_ldc (v := (-1000001)) C (by decide +kernel) dX7_game_51 ?_
        exact s_ireturn C hA dX7_game_53 (by rw [sp_game, if_neg (by omega)]; exact ⟨rfl, hX⟩)
      · replace h27 := ih_b1 hrw24 h27
        refine s_iload C 4 dX7_game_30 rfl ?_
        refine s_iconst (v := nI 0) C dX7_game_32 (by decide) ?_
        refine s_bipush (v := nI 12) C dX7_game_33 (by decide) ?_
        refine s_callSi 3 C (c_X7_within _ w _ _ _ _ _) gX7_game_X7_within rfl (by decide +kernel) (by decide) (by decide) rfl rfl (Nat.le_of_ble_eq_true rfl) dX7_game_35 ?_
        rintro rw35 S2 ⟨hrw35, hSS⟩
        obtain rfl := hSS.symm
        rw [ih_t (by decide), ih_t (by decide)] at hrw35
        refine s_if_eq C 51 dX7_game_38 (by decide) (fun h38 => ?_) (fun h38 => ?_)
        · replace h38 := ih_b0 hrw35 h38
          refine s_ldc (v := (-1000001)) C (by decide +kernel) dX7_game_51 ?_
          exact s_ireturn C hA dX7_game_53 (by rw [sp_game, if_neg (by omega)]; exact ⟨rfl, hX⟩)
        · replace h38 := ih_b1 hrw35 h38
          refine s_iload C 5 dX7_game_41 rfl ?_
          refine s_iconst (v := nI 0) C dX7_game_43 (by decide) ?_
          refine s_iconst (v := nI 2) C dX7_game_44 (by decide) ?_
          refine s_callSi 3 C (c_X7_within _ w _ _ _ _ _) gX7_game_X7_within rfl (by decide +kernel) (by decide) (by decide) rfl rfl (Nat.le_of_ble_eq_true rfl) dX7_game_45 ?_
          rintro rw45 S2 ⟨hrw45, hSS⟩
          obtain rfl := hSS.symm
          rw [ih_t (by decide), ih_t (by decide)] at hrw45
          refine s_if_ne C 54 dX7_game_48 (by decide) (fun h48 => ?_) (fun h48 => ?_)
          · replace h48 := ih_b1 hrw45 h48
            obtain ⟨hn_, hhn_, rfl, hhn_t⟩ := ih_nat (a := h) h6.1
            obtain ⟨LL, hLL, rfl, hLLt⟩ := ih_lead_of h17
            have hLLn : ((nI LL - nI 9).toInt + 9).toNat = LL := by omega
            obtain ⟨sn, hsn, rfl, hsnt⟩ := ih_nat (a := s) h27.1
            obtain ⟨nn, hnn, rfl, hnnt⟩ := ih_nat (a := n) h38.1
            obtain ⟨wn, hwn, rfl, hwnt⟩ := ih_nat (a := w_) h48.1
            refine s_aload_n C 0 dX7_game_54 rfl ?_
            refine s_getR C 7 5 (hp _ _ _ rfl) (by decide) rfl (by decide) rfl (fun _ h => List.mem_cons_of_mem _ (List.mem_append_left _ (List.mem_append_left _ (List.mem_append_left _ (List.mem_append_right _ h))))) (by decide) rfl (by decide +kernel) dX7_game_55 ?_
            refine s_callVi 0 C (c_X4_howManyTeams _ w _ T hX hI) gX7_game_X4_howManyTeams rfl (by decide +kernel) (by decide) (by decide) (by decide) rfl (by decide) rfl rfl rfl (Nat.le_of_ble_eq_true rfl) dX7_game_58 ?_
            rintro rt S2 ⟨hrt, hSS⟩
            obtain rfl := hSS.symm
            obtain ⟨tq, htq⟩ : ∃ tq : Nat, tq = (if T 9 0 = -1000000 then 0 else 1) + (if T 9 1 = -1000000 then 0 else 1) := ⟨_, rfl⟩
            rw [← htq] at hrt
            subst hrt
            have htq2 : (tq < 2 → T 9 0 = -1000000 ∨ T 9 1 = -1000000) ∧ (2 ≤ tq → ¬ T 9 0 = -1000000 ∧ ¬ T 9 1 = -1000000) ∧ tq ≤ 2 := by
              by_cases q0 : T 9 0 = -1000000 <;> by_cases q1 : T 9 1 = -1000000 <;> simp [q0, q1] at htq ⊢ <;> omega
            refine s_iconst (v := nI 2) C dX7_game_61 (by decide) ?_
            refine s_icmp_geN 68 C dX7_game_62 (by decide) (by omega) (by omega) (fun h62 => ?_) (fun h62 => ?_)
            · refine s_aload_n C 0 dX7_game_68 rfl ?_
              refine s_getR C 7 5 (hp _ _ _ rfl) (by decide) rfl (by decide) rfl (fun _ h => List.mem_cons_of_mem _ (List.mem_append_left _ (List.mem_append_left _ (List.mem_append_left _ (List.mem_append_right _ h))))) (by decide) rfl (by decide +kernel) dX7_game_69 ?_
              refine s_iload_n C 1 dX7_game_72 rfl ?_
              refine s_iload_n C 2 dX7_game_73 rfl ?_
              refine s_iload_n C 3 dX7_game_74 rfl ?_
              refine s_iload C 4 dX7_game_75 rfl ?_
              refine s_iload C 5 dX7_game_77 rfl ?_
              refine s_callVi 5 C (c_X4_told _ w _ T hX hI (ih_HT_of hI (htq2.2.1 h62).1 (htq2.2.1 h62).2) hn_ LL sn nn wn (by omega) hLL (by omega) (by omega) (by omega)) gX7_game_X4_told rfl (by decide +kernel) (by decide) (by decide) (by decide) rfl (by decide) rfl rfl rfl (Nat.le_of_ble_eq_true rfl) dX7_game_79 ?_
              rintro rr S ⟨hrr, hX⟩
              exact s_ireturn C hA dX7_game_82 (by rw [sp_game, if_pos (show (0 ≤ (nI hn_).toInt ∧ (nI hn_).toInt ≤ 5) ∧ (-9 ≤ (nI LL - nI 9).toInt ∧ (nI LL - nI 9).toInt ≤ 9) ∧ (0 ≤ (nI sn).toInt ∧ (nI sn).toInt ≤ 24) ∧ (0 ≤ (nI nn).toInt ∧ (nI nn).toInt ≤ 12) ∧ (0 ≤ (nI wn).toInt ∧ (nI wn).toInt ≤ 2) by omega), ih_n_nI hhn_, ih_n_nI hsn, ih_n_nI hnn, ih_n_nI hwn, hLLn, if_neg (show ¬ (T 9 0 = -1000000 ∨ T 9 1 = -1000000) from fun q => q.elim (htq2.2.1 h62).1 (htq2.2.1 h62).2)]; exact ⟨hrr, hX⟩)
            · refine s_ldc (v := (-1000002)) C (by decide +kernel) dX7_game_65 ?_
              exact s_ireturn C hA dX7_game_67 (by rw [sp_game, if_pos (show (0 ≤ (nI hn_).toInt ∧ (nI hn_).toInt ≤ 5) ∧ (-9 ≤ (nI LL - nI 9).toInt ∧ (nI LL - nI 9).toInt ≤ 9) ∧ (0 ≤ (nI sn).toInt ∧ (nI sn).toInt ≤ 24) ∧ (0 ≤ (nI nn).toInt ∧ (nI nn).toInt ≤ 12) ∧ (0 ≤ (nI wn).toInt ∧ (nI wn).toInt ≤ 2) by omega), if_pos (htq2.1 (by omega))]; exact ⟨rfl, hX⟩)
          · replace h48 := ih_b0 hrw45 h48
            refine s_ldc (v := (-1000001)) C (by decide +kernel) dX7_game_51 ?_
            exact s_ireturn C hA dX7_game_53 (by rw [sp_game, if_neg (by omega)]; exact ⟨rfl, hX⟩)

