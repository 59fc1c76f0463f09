theorem ih_lg_s {T : ih_TT} {b k : Nat} (hc : (ih_lg T b k).1 = -1000000) (hf : ih_fit T (b + 3 * k) (ih_lg T b k).2.1) : ih_lg T b (k + 1) = (-1000000, ih_nx (ih_now (ih_lg T b k).2.1) (ih_n (T 3 (b + 3 * k))), (ih_lg T b k).2.2.1 + ih_rn (ih_now (ih_lg T b k).2.1) (ih_n (T 3 (b + 3 * k))), (ih_lg T b k).2.2.2.1 + (if ih_nx (ih_now (ih_lg T b k).2.1) (ih_n (T 3 (b + 3 * k))) = 24 then 1 else 0), fun a => if a = ih_n (T 3 (b + 3 * k)) then (ih_lg T b k).2.2.2.2 a + 1 else (ih_lg T b k).2.2.2.2 a) := by
  show (if (ih_lg T b k).1 = -1000000 then _ else _) = _
  rw [if_pos hc]; exact if_pos hf
theorem ih_lg_b {T : ih_TT} {b k : Nat} (hc : (ih_lg T b k).1 = -1000000) (hf : ¬ ih_fit T (b + 3 * k) (ih_lg T b k).2.1) : ih_lg T b (k + 1) = (nI k, (ih_lg T b k).2) := by
  show (if (ih_lg T b k).1 = -1000000 then _ else _) = _
  rw [if_pos hc]; exact if_neg hf
theorem ih_lg_f {T : ih_TT} {b k : Nat} (hc : ¬ (ih_lg T b k).1 = -1000000) : ih_lg T b (k + 1) = ih_lg T b k := by
  show (if (ih_lg T b k).1 = -1000000 then _ else _) = _
  rw [if_neg hc]
theorem ih_lg_fr {T : ih_TT} {b k : Nat} (hc : ¬ (ih_lg T b k).1 = -1000000) : ∀ m, ih_lg T b (k + m) = ih_lg T b k
  | 0 => rfl
  | m + 1 => by
    have h := ih_lg_fr hc m
    show ih_lg T b (k + m + 1) = _
    rw [ih_lg_f (by rw [h]; exact hc), h]
theorem ih_lg_le {T : ih_TT} {b : Nat} : ∀ k, (ih_lg T b k).2.1 ≤ 24 ∧ (ih_lg T b k).2.2.1 ≤ 4 * k ∧ (ih_lg T b k).2.2.2.1 ≤ k ∧ ∀ a, (ih_lg T b k).2.2.2.2 a ≤ k
  | 0 => ⟨Nat.zero_le _, Nat.le_refl _, Nat.le_refl _, fun _ => Nat.le_refl _⟩
  | k + 1 => by
    obtain ⟨h1, h2, h3, h4⟩ := ih_lg_le (T := T) (b := b) k
    by_cases hc : (ih_lg T b k).1 = -1000000
    · by_cases hf : ih_fit T (b + 3 * k) (ih_lg T b k).2.1
      · have hn : ih_now (ih_lg T b k).2.1 < 24 := by unfold ih_now; split <;> omega
        obtain ⟨n, hn1, hn2, hn3⟩ := ih_nat hf.1
        have ha : ih_n (T 3 (b + 3 * k)) < 9 := by rw [hn2, ih_n_nI hn1]; have := hf.2.1; omega
        have q1 := ih_nx_le _ hn _ ha
        have q2 := ih_rn_le _ hn _ ha
        rw [ih_lg_s hc hf]
        refine ⟨by dsimp only; omega, by dsimp only; omega, by dsimp only; split <;> omega, fun a => ?_⟩
        have := h4 a
        dsimp only
        split <;> omega
      · rw [ih_lg_b hc hf]
        exact ⟨h1, by dsimp only; omega, by dsimp only; omega, fun a => by have := h4 a; dsimp only; omega⟩
    · rw [ih_lg_f hc]
      exact ⟨h1, by omega, by omega, fun a => by have := h4 a; omega⟩
theorem ih_now_lt {s : Nat} (h : s ≤ 24) : ih_now s < 24 := by unfold ih_now; split <;> omega
/-- the reference's own cells of a log -/
def ih_LS (I : Nat → Nat → Int32) (q : Int32 × Nat × Nat × Nat × (Nat → Nat)) : Prop := I 0 15 = q.1 ∧ I 0 18 = nI q.2.1 ∧ I 0 16 = nI q.2.2.1 ∧ I 0 17 = nI q.2.2.2.1 ∧ ∀ a, a < 9 → I 12 a = nI (q.2.2.2.2 a)
theorem ih_LS_b {S : ih_Sg} {q : Int32 × Nat × Nat × Nat × (Nat → Nat)} {v : Int32} (h : ih_LS S.1 q) : ih_LS (ih_sI S 0 15 v).1 (v, q.2) := ⟨rfl, h.2.1, h.2.2.1, h.2.2.2.1, h.2.2.2.2⟩
theorem ih_LS_s {S : ih_Sg} {c : Int32} {l r o : Nat} {f g : Nat → Nat} {a l2 r2 o2 : Nat} (h : ih_LS S.1 (c, l, r, o, f)) (hg : ∀ b, g b = if b = a then f b + 1 else f b) : ih_LS (ih_sI (ih_sI (ih_sI (ih_sI S 12 a (nI (f a + 1))) 0 16 (nI r2)) 0 18 (nI l2)) 0 17 (nI o2)).1 (c, l2, r2, o2, g) := by
  refine ⟨h.1, rfl, rfl, rfl, fun b hb => ?_⟩
  show ih_u2 S.1 12 a (nI (f a + 1)) 12 b = nI (g b)
  rw [hg b]
  by_cases he : b = a
  · subst he; rw [ih_u2_s, if_pos rfl]
  · rw [ih_u2_j he, if_neg he]; exact h.2.2.2.2 b hb
def ih_okp (T : ih_TT) (sn : Nat) (i : Int32) (nn : Nat) : Prop := 0 ≤ i.toInt ∧ i.toInt + 3 * nn ≤ ih_mn T sn
set_option maxHeartbeats 4000000 in
set_option maxRecDepth 100000 in
theorem c_X8_readLog (l : Launch) (w : ih_Wd) (S : ih_Sg) (T : ih_TT) (hM : ih_RM S T) (hI : ih_Inv T) (sn : Nat) (hsn : sn < 8) (i : Int32) (nn : Nat) (hnn : nn ≤ 20) : ih_Ci l yX8_readLog wsX8_readLog 2 w ih_shM [.ref (w.2.2 0), .int (nI sn), .int i, .int (nI nn)] S (fun r S' => if (T 1 sn).toInt < 0 then (r = (ih_fe T 1).1 ∧ ih_RM S' (ih_fe T 1).2) else if 0 ≤ i.toInt ∧ i.toInt + 3 * nn ≤ ih_mn T sn then (r = nI 0 ∧ ih_RM S' (ih_u2 T 0 1 (nI 0)) ∧ ih_LS S'.1 (ih_lg T (60 * sn + ih_n i) nn)) else (r = (ih_fe T 2).1 ∧ ih_RM S' (ih_fe T 2).2)) := by
  refine ih_bodyi (ret := some .int) rfl rfl (Nat.le_of_ble_eq_true rfl) ?_
  intro x A hA C
  have C : ih_Ok x w A cX8_readLog 9 RX8 wsX8_readLog (ih_rm 2) (some .int) := C
  show ih_Mw x w ih_shM A (ih_Qi x w ih_shM A _) 9 0 0 0 [(0, .ref (w.2.2 0)), (1, .int (nI sn)), (2, .int i), (3, .int (nI nn))] [] S
  obtain ⟨Q, hQ⟩ : ∃ Q, Q = ih_Qi x w ih_shM A (fun r S' => if (T 1 sn).toInt < 0 then (r = (ih_fe T 1).1 ∧ ih_RM S' (ih_fe T 1).2) else if 0 ≤ i.toInt ∧ i.toInt + 3 * nn ≤ ih_mn T sn then (r = nI 0 ∧ ih_RM S' (ih_u2 T 0 1 (nI 0)) ∧ ih_LS S'.1 (ih_lg T (60 * sn + ih_n i) nn)) else (r = (ih_fe T 2).1 ∧ ih_RM S' (ih_fe T 2).2)) := ⟨_, rfl⟩
  rw [show ih_Qi x w ih_shM A _ = Q from hQ.symm]
  have hmn : ih_mn T sn ≤ 60 := (hI.1 sn hsn).2.2
  refine s_aload_n C 0 dX8_readLog_0 rfl ?_
  refine s_getR C 8 2 (hM.1 _ _ _ rfl) (by decide) rfl (by decide) rfl (fun _ h => List.mem_cons_of_mem _ (List.mem_append_right _ h)) (by decide) rfl (by decide +kernel) dX8_readLog_1 ?_
  refine s_iload_n C 1 dX8_readLog_4 rfl ?_
  refine s_iaload C 8 (sn) rfl rfl (by omega) (by decide) (by decide) rfl dX8_readLog_5 ?_
  refine s_toe (b := T 1 sn) (hM.2 _ _ rfl) ?_
  refine s_if_ge C 15 dX8_readLog_6 (by decide) (fun h6 => ?_) (fun h6 => ?_)
  · simp only [ih_lei, ih_lti, ih_t0] at h6
    refine s_iload_n C 2 dX8_readLog_15 rfl ?_
    refine s_if_lt C 37 dX8_readLog_16 (by decide) (fun h16 => ?_) (fun h16 => ?_)
    · simp only [ih_lei, ih_lti, ih_t0] at h16
      refine s_aload_n C 0 dX8_readLog_37 rfl ?_
      refine s_iconst (v := nI 2) C dX8_readLog_38 (by decide) ?_
      refine s_callVi 1 C (c_X8_found _ w _ _) gX8_readLog_X8_found rfl (by decide +kernel) (by decide) (by decide) (by decide) rfl (by decide) rfl rfl rfl (Nat.le_of_ble_eq_true rfl) dX8_readLog_39 ?_
      rintro rf S2 ⟨hrf, rfl⟩
      refine m_w hM (fun S hM => ?_)
      rw [hQ]
      exact s_ireturn C hA dX8_readLog_42 (by rw [if_neg (by omega), if_neg (by omega)]; exact ⟨hrf, hM⟩)
    · simp only [ih_lei, ih_lti, ih_t0] at h16
      obtain ⟨ii, hii, rfl, hiit⟩ := ih_nat (a := i) (by omega)
      refine s_iload_n C 2 dX8_readLog_19 rfl ?_
      refine s_i2lN C dX8_readLog_20 (by omega) ?_
      refine s_iconst (v := nI 3) C dX8_readLog_21 (by decide) ?_
      refine s_iload_n C 3 dX8_readLog_22 rfl ?_
      refine s_imulN C dX8_readLog_23 ?_
      refine s_i2lN C dX8_readLog_24 (by omega) ?_
      refine s_laddN C dX8_readLog_25 ?_
      refine s_aload_n C 0 dX8_readLog_26 rfl ?_
      refine s_getR C 8 3 (hM.1 _ _ _ rfl) (by decide) rfl (by decide) rfl (fun _ h => List.mem_cons_of_mem _ (List.mem_append_right _ h)) (by decide) rfl (by decide +kernel) dX8_readLog_27 ?_
      refine s_iload_n C 1 dX8_readLog_30 rfl ?_
      refine s_iaload C 8 (sn) rfl rfl (by omega) (by decide) (by decide) rfl dX8_readLog_31 ?_
      refine s_toe (b := T 2 sn) (hM.2 _ _ rfl) ?_
      refine s_toe (b := nI (ih_mn T sn)) (hI.1 sn hsn).2.1 ?_
      refine s_i2lN C dX8_readLog_32 (by omega) ?_
      refine s_lcmp C dX8_readLog_33 ?_
      refine s_if_le C 43 dX8_readLog_34 (by decide) (fun h34 => ?_) (fun h34 => ?_)
      · simp only [ih_t0, lg_cmp_lt, lg_cmp_gt, lg_cmp_le, lg_cmp_ge, ih_lel, ih_ltl, ih_tl (n := ii + (3 * nn)) (by omega), ih_tl (n := ih_mn T sn) (by omega)] at h34
        refine s_aload_n C 0 dX8_readLog_43 rfl ?_
        refine s_iconst (v := nI 0) C dX8_readLog_44 (by decide) ?_
        refine s_putI (ty := .int) C 8 1 tyX8 tyX8_ok nmX8 (by decide) rfl (by decide) rfl (fun _ h => List.mem_cons_of_mem _ (List.mem_append_right _ h)) (by decide) rfl (by decide +kernel) rfl (by decide +kernel) rfl rfl dX8_readLog_45 ?_
        refine m_w hM (fun S hM => ?_)
        refine s_aload_n C 0 dX8_readLog_48 rfl ?_
        refine s_ldc (v := (-1000000)) C (by decide +kernel) dX8_readLog_49 ?_
        refine s_putI (ty := .int) C 8 15 tyX8 tyX8_ok nmX8 (by decide) rfl (by decide) rfl (fun _ h => List.mem_cons_of_mem _ (List.mem_append_right _ h)) (by decide) rfl (by decide +kernel) rfl (by decide +kernel) rfl rfl dX8_readLog_51 ?_
        refine s_aload_n C 0 dX8_readLog_54 rfl ?_
        refine s_iconst (v := nI 0) C dX8_readLog_55 (by decide) ?_
        refine s_putI (ty := .int) C 8 16 tyX8 tyX8_ok nmX8 (by decide) rfl (by decide) rfl (fun _ h => List.mem_cons_of_mem _ (List.mem_append_right _ h)) (by decide) rfl (by decide +kernel) rfl (by decide +kernel) rfl rfl dX8_readLog_56 ?_
        refine s_aload_n C 0 dX8_readLog_59 rfl ?_
        refine s_iconst (v := nI 0) C dX8_readLog_60 (by decide) ?_
        refine s_putI (ty := .int) C 8 17 tyX8 tyX8_ok nmX8 (by decide) rfl (by decide) rfl (fun _ h => List.mem_cons_of_mem _ (List.mem_append_right _ h)) (by decide) rfl (by decide +kernel) rfl (by decide +kernel) rfl rfl dX8_readLog_61 ?_
        refine s_aload_n C 0 dX8_readLog_64 rfl ?_
        refine s_iconst (v := nI 0) C dX8_readLog_65 (by decide) ?_
        refine s_putI (ty := .int) C 8 18 tyX8 tyX8_ok nmX8 (by decide) rfl (by decide) rfl (fun _ h => List.mem_cons_of_mem _ (List.mem_append_right _ h)) (by decide) rfl (by decide +kernel) rfl (by decide +kernel) rfl rfl dX8_readLog_66 ?_
        refine s_iconst (v := nI 0) C dX8_readLog_69 (by decide) ?_
        refine s_istore (lv' := [(4, .int (nI 0)), (0, .ref (w.2.2 0)), (1, .int (nI sn)), (2, .int (nI ii)), (3, .int (nI nn))]) C dX8_readLog_70 (by decide) rfl ?_
        have hx_72 : ∀ S, ih_RM S (ih_u2 T 0 1 (nI 0)) ∧ S.1 0 15 = -1000000 ∧ S.1 0 18 = nI 0 ∧ S.1 0 16 = nI 0 ∧ S.1 0 17 = nI 0 ∧ (∀ a, a < 9 → S.1 12 a = nI 0) → ih_Mw x w ih_shM A Q 9 0 0 93 [(0, .ref (w.2.2 0)), (1, .int (nI sn)), (2, .int (nI ii)), (3, .int (nI nn)), (4, .int (nI 9))] [] S := by
          intro S ⟨hM, hz1, hz2, hz3, hz4, hz5⟩
          refine s_iconst (v := nI 0) C dX8_readLog_93 (by decide) ?_
          refine s_istore (lv' := [(4, .int (nI 0)), (0, .ref (w.2.2 0)), (1, .int (nI sn)), (2, .int (nI ii)), (3, .int (nI nn))]) C dX8_readLog_94 (by decide) rfl ?_
          have hx_96 : ∀ S, ih_RM S (ih_u2 T 0 1 (nI 0)) ∧ ih_LS S.1 (ih_lg T (60 * sn + ii) (nn)) → ih_Mw x w ih_shM A Q 9 0 0 301 [(0, .ref (w.2.2 0)), (1, .int (nI sn)), (2, .int (nI ii)), (3, .int (nI nn))] [] S := by
            intro S ⟨hM, hq⟩
            refine s_iconst (v := nI 0) C dX8_readLog_301 (by decide) ?_
            rw [hQ]
            exact s_ireturn C hA dX8_readLog_302 (by rw [if_neg (by omega), if_pos (by omega), ih_n_nI hii]; exact ⟨rfl, hM, hq⟩)
          have loop_96 : ∀ (fu k : Nat), k + fu = nn → ∀ S, ih_RM S (ih_u2 T 0 1 (nI 0)) ∧ ih_LS S.1 (ih_lg T (60 * sn + ii) (k)) → ih_Mw x w ih_shM A Q 9 0 0 96 [(0, .ref (w.2.2 0)), (1, .int (nI sn)), (2, .int (nI ii)), (3, .int (nI nn)), (4, .int (nI k))] [] S := by
            intro fu
            induction fu with
            | zero =>
              intro k hke S ⟨hM, hq⟩
              have hk0 : k = nn := by omega
              refine s_iload C 4 dX8_readLog_96 rfl ?_
              refine s_iload_n C 3 dX8_readLog_98 rfl ?_
              refine s_icmp_geN 301 C dX8_readLog_99 (by decide) (by omega) (by omega) (fun h99 => ?_) (fun h99 => ?_)
              · refine s_perm [0, 1, 2, 3] rfl ?_
                subst hk0
                exact hx_96 _ ⟨hM, hq⟩
              · exfalso; omega
            | succ fu ih_96 =>
              intro k hke S ⟨hM, hq⟩
              have hkl : k < nn := by omega
              obtain ⟨hl1, hl2, hl3, hl4⟩ := ih_lg_le (T := T) (b := (60 * sn + ii)) k
              have hnow := ih_now_lt hl1
              refine s_iload C 4 dX8_readLog_96 rfl ?_
              refine s_iload_n C 3 dX8_readLog_98 rfl ?_
              refine s_icmp_geN 301 C dX8_readLog_99 (by decide) (by omega) (by omega) (fun h99 => ?_) (fun h99 => ?_)
              · exfalso; omega
              · refine s_aload_n C 0 dX8_readLog_102 rfl ?_
                refine s_getI C 8 15 (by decide) rfl (by decide) rfl (fun _ h => List.mem_cons_of_mem _ (List.mem_append_right _ h)) (by decide) rfl (by decide +kernel) dX8_readLog_103 ?_
                refine s_toe (b := (ih_lg T (60 * sn + ii) k).1) hq.1 ?_
                refine s_ldc (v := (-1000000)) C (by decide +kernel) dX8_readLog_106 ?_
                refine s_icmp_ne C 301 dX8_readLog_108 (by decide) (fun h108 => ?_) (fun h108 => ?_)
                · refine s_perm [0, 1, 2, 3] rfl ?_
                  refine hx_96 _ ⟨hM, ?_⟩
                  rw [show nn = k + (nn - k) by omega, ih_lg_fr h108]
                  exact hq
                · have hcl : (ih_lg T (60 * sn + ii) k).1 = -1000000 := h108
                  refine s_bipush (v := nI 60) C dX8_readLog_111 (by decide) ?_
                  refine s_iload_n C 1 dX8_readLog_113 rfl ?_
                  refine s_imulN C dX8_readLog_114 ?_
                  refine s_iload_n C 2 dX8_readLog_115 rfl ?_
                  refine s_iaddN C dX8_readLog_116 ?_
                  refine s_iconst (v := nI 3) C dX8_readLog_117 (by decide) ?_
                  refine s_iload C 4 dX8_readLog_118 rfl ?_
                  refine s_imulN C dX8_readLog_120 ?_
                  refine s_iaddN C dX8_readLog_121 ?_
                  refine s_istore (lv' := [(5, .int (nI (((60 * sn) + ii) + (3 * k)))), (0, .ref (w.2.2 0)), (1, .int (nI sn)), (2, .int (nI ii)), (3, .int (nI nn)), (4, .int (nI k))]) C dX8_readLog_122 (by decide) rfl ?_
                  refine s_aload_n C 1 dX8_readLog_124 rfl ?_
                  refine s_getR C 8 4 (hM.1 _ _ _ rfl) (by decide) rfl (by decide) rfl (fun _ h => List.mem_cons_of_mem _ (List.mem_append_right _ h)) (by decide) rfl (by decide +kernel) dX8_readLog_125 ?_
                  refine s_iload C 0 dX8_readLog_128 rfl ?_
                  refine s_iaload C 480 (((60 * sn) + ii) + (3 * k)) rfl rfl (by omega) (by decide) (by decide) rfl dX8_readLog_130 ?_
                  refine s_toe (b := T 3 (((60 * sn) + ii) + (3 * k))) (hM.2 _ _ rfl) ?_
                  refine s_istore (lv' := [(6, .int (T 3 (((60 * sn) + ii) + (3 * k)))), (5, .int (nI (((60 * sn) + ii) + (3 * k)))), (0, .ref (w.2.2 0)), (1, .int (nI sn)), (2, .int (nI ii)), (3, .int (nI nn)), (4, .int (nI k))]) C dX8_readLog_131 (by decide) rfl ?_
                  refine s_aload_n C 2 dX8_readLog_133 rfl ?_
                  refine s_getI C 8 18 (by decide) rfl (by decide) rfl (fun _ h => List.mem_cons_of_mem _ (List.mem_append_right _ h)) (by decide) rfl (by decide +kernel) dX8_readLog_134 ?_
                  refine s_toe (b := nI ((ih_lg T (60 * sn + ii) k).2.1)) hq.2.1 ?_
                  refine s_bipush (v := nI 24) C dX8_readLog_137 (by decide) ?_
                  refine s_icmp_neN 146 C dX8_readLog_139 (by decide) (by omega) (by omega) (fun h139 => ?_) (fun h139 => ?_)
                  · refine s_aload_n C 2 dX8_readLog_146 rfl ?_
                    refine s_getI C 8 18 (by decide) rfl (by decide) rfl (fun _ h => List.mem_cons_of_mem _ (List.mem_append_right _ h)) (by decide) rfl (by decide +kernel) dX8_readLog_147 ?_
                    refine s_toe (b := nI ((ih_lg T (60 * sn + ii) k).2.1)) hq.2.1 ?_
                    refine s_toe (b := nI (ih_now (ih_lg T (60 * sn + ii) k).2.1)) (congrArg nI (by rw [ih_now, if_neg h139])) ?_
                    refine s_istore (lv' := [(7, .int (nI (ih_now (ih_lg T (60 * sn + ii) k).2.1))), (6, .int (T 3 (((60 * sn) + ii) + (3 * k)))), (5, .int (nI (((60 * sn) + ii) + (3 * k)))), (0, .ref (w.2.2 0)), (1, .int (nI sn)), (2, .int (nI ii)), (3, .int (nI nn)), (4, .int (nI k))]) C dX8_readLog_150 (by decide) rfl ?_
                    refine s_iload C 1 dX8_readLog_152 rfl ?_
                    refine s_i2l C dX8_readLog_154 ?_
                    refine s_lconst (v := lN 0) C dX8_readLog_155 rfl ?_
                    refine s_ldc2 (v := lN 8) C (by decide +kernel) dX8_readLog_156 ?_
                    refine s_callSi 3 C (c_X8_in _ w _ _ _ _ _) gX8_readLog_X8_in rfl (by decide +kernel) (by decide) (by decide) rfl rfl (Nat.le_of_ble_eq_true rfl) dX8_readLog_159 ?_
                    rintro rb159 S2 ⟨hrb159, rfl⟩
                    rw [ih_wide, ih_tl (by decide), ih_tl (by decide)] at hrb159
                    refine s_if_eq C 217 dX8_readLog_162 (by decide) (fun h162 => ?_) (fun h162 => ?_)
                    · replace h162 := ih_b0 hrb159 h162
                      refine s_iconst (v := nI 0) C dX8_readLog_217 (by decide) ?_
                      refine s_istore (lv' := [(8, .int (nI 0)), (7, .int (nI (ih_now (ih_lg T (60 * sn + ii) k).2.1))), (6, .int (T 3 (((60 * sn) + ii) + (3 * k)))), (5, .int (nI (((60 * sn) + ii) + (3 * k)))), (0, .ref (w.2.2 0)), (1, .int (nI sn)), (2, .int (nI ii)), (3, .int (nI nn)), (4, .int (nI k))]) C dX8_readLog_218 (by decide) rfl ?_
                      refine s_iload C 0 dX8_readLog_220 rfl ?_
                      refine s_if_eqN 289 C dX8_readLog_222 (by decide) (by omega) (fun h222 => ?_) (fun h222 => ?_)
                      · refine s_aload_n C 4 dX8_readLog_289 rfl ?_
                        refine s_iload C 8 dX8_readLog_290 rfl ?_
                        refine s_putI (ty := .int) C 8 15 tyX8 tyX8_ok nmX8 (by decide) rfl (by decide) rfl (fun _ h => List.mem_cons_of_mem _ (List.mem_append_right _ h)) (by decide) rfl (by decide +kernel) rfl (by decide +kernel) rfl rfl dX8_readLog_292 ?_
                        refine s_iinc (u := nI (k + 1)) (lv' := [(4, .int (nI (k + 1))), (8, .int (nI 0)), (7, .int (nI (ih_now (ih_lg T (60 * sn + ii) k).2.1))), (6, .int (T 3 (((60 * sn) + ii) + (3 * k)))), (5, .int (nI (((60 * sn) + ii) + (3 * k)))), (0, .ref (w.2.2 0)), (1, .int (nI sn)), (2, .int (nI ii)), (3, .int (nI nn))]) C 8 dX8_readLog_295 rfl (ih_incN (by decide)) (by decide) rfl ?_
                        refine s_goto C 96 dX8_readLog_298 (by decide) ?_
                        refine s_perm [5, 6, 7, 8, 0] rfl ?_
                        exact ih_96 (k + 1) (by omega) _ ⟨ih_RM_h hM rfl, by rw [ih_lg_b hcl (fun q => h162 ⟨q.1, q.2.1⟩)]; exact ih_LS_b hq⟩
                      · exact absurd h222 (by decide)
                    · replace h162 := ih_b1 hrb159 h162
                      obtain ⟨an, han, hane, hant⟩ := ih_nat (a := T 3 (60 * sn + ii + 3 * k)) h162.1
                      have hani : ih_n (T 3 (60 * sn + ii + 3 * k)) = an := ih_n_of hane han
                      rw [hane]
                      refine s_iload C 0 dX8_readLog_165 rfl ?_
                      refine s_iload C 1 dX8_readLog_167 rfl ?_
                      refine s_callSi 2 C (c_X8_mayBe _ w _ (ih_now (ih_lg T (60 * sn + ii) k).2.1) an hnow (by omega)) gX8_readLog_X8_mayBe rfl (by decide +kernel) (by decide) (by decide) rfl rfl (Nat.le_of_ble_eq_true rfl) dX8_readLog_169 ?_
                      rintro rm169 S2 ⟨hrm169, rfl⟩
                      refine s_if_eq C 217 dX8_readLog_172 (by decide) (fun h172 => ?_) (fun h172 => ?_)
                      · replace h172 := ih_b0 hrm169 h172
                        refine s_iconst (v := nI 0) C dX8_readLog_217 (by decide) ?_
                        refine s_istore (lv' := [(8, .int (nI 0)), (7, .int (nI (ih_now (ih_lg T (60 * sn + ii) k).2.1))), (6, .int (nI an)), (5, .int (nI (((60 * sn) + ii) + (3 * k)))), (0, .ref (w.2.2 0)), (1, .int (nI sn)), (2, .int (nI ii)), (3, .int (nI nn)), (4, .int (nI k))]) C dX8_readLog_218 (by decide) rfl ?_
                        refine s_iload C 0 dX8_readLog_220 rfl ?_
                        refine s_if_eqN 289 C dX8_readLog_222 (by decide) (by omega) (fun h222 => ?_) (fun h222 => ?_)
                        · refine s_aload_n C 4 dX8_readLog_289 rfl ?_
                          refine s_iload C 8 dX8_readLog_290 rfl ?_
                          refine s_putI (ty := .int) C 8 15 tyX8 tyX8_ok nmX8 (by decide) rfl (by decide) rfl (fun _ h => List.mem_cons_of_mem _ (List.mem_append_right _ h)) (by decide) rfl (by decide +kernel) rfl (by decide +kernel) rfl rfl dX8_readLog_292 ?_
                          refine s_iinc (u := nI (k + 1)) (lv' := [(4, .int (nI (k + 1))), (8, .int (nI 0)), (7, .int (nI (ih_now (ih_lg T (60 * sn + ii) k).2.1))), (6, .int (nI an)), (5, .int (nI (((60 * sn) + ii) + (3 * k)))), (0, .ref (w.2.2 0)), (1, .int (nI sn)), (2, .int (nI ii)), (3, .int (nI nn))]) C 8 dX8_readLog_295 rfl (ih_incN (by decide)) (by decide) rfl ?_
                          refine s_goto C 96 dX8_readLog_298 (by decide) ?_
                          refine s_perm [5, 6, 7, 8, 0] rfl ?_
                          exact ih_96 (k + 1) (by omega) _ ⟨ih_RM_h hM rfl, by rw [ih_lg_b hcl (fun q => h172 (by have := q.2.2.1; rw [hani] at this; exact this))]; exact ih_LS_b hq⟩
                        · exact absurd h222 (by decide)
                      · replace h172 := ih_b1 hrm169 h172
                        refine s_iload C 0 dX8_readLog_175 rfl ?_
                        refine s_iload C 1 dX8_readLog_177 rfl ?_
                        refine s_callSi 2 C (c_X8_next _ w _ (ih_now (ih_lg T (60 * sn + ii) k).2.1) an hnow (by omega)) gX8_readLog_X8_next rfl (by decide +kernel) (by decide) (by decide) rfl rfl (Nat.le_of_ble_eq_true rfl) dX8_readLog_179 ?_
                        rintro rr S2 ⟨hrr, hSS⟩
                        obtain rfl := hSS.symm
                        subst hrr
                        have hnxl := ih_nx_le _ hnow an (by omega)
                        refine s_aload_n C 3 dX8_readLog_182 rfl ?_
                        refine s_getR C 8 4 (hM.1 _ _ _ rfl) (by decide) rfl (by decide) rfl (fun _ h => List.mem_cons_of_mem _ (List.mem_append_right _ h)) (by decide) rfl (by decide +kernel) dX8_readLog_183 ?_
                        refine s_iload C 2 dX8_readLog_186 rfl ?_
                        refine s_iconst (v := nI 1) C dX8_readLog_188 (by decide) ?_
                        refine s_iaddN C dX8_readLog_189 ?_
                        refine s_iaload C 480 ((((60 * sn) + ii) + (3 * k)) + 1) rfl rfl (by omega) (by decide) (by decide) rfl dX8_readLog_190 ?_
                        refine s_toe (b := T 3 ((((60 * sn) + ii) + (3 * k)) + 1)) (hM.2 _ _ rfl) ?_
                        refine s_icmp_ne C 217 dX8_readLog_191 (by decide) (fun h191 => ?_) (fun h191 => ?_)
                        · refine s_iconst (v := nI 0) C dX8_readLog_217 (by decide) ?_
                          refine s_istore (lv' := [(8, .int (nI 0)), (7, .int (nI (ih_now (ih_lg T (60 * sn + ii) k).2.1))), (6, .int (nI an)), (5, .int (nI (((60 * sn) + ii) + (3 * k)))), (0, .ref (w.2.2 0)), (1, .int (nI sn)), (2, .int (nI ii)), (3, .int (nI nn)), (4, .int (nI k))]) C dX8_readLog_218 (by decide) rfl ?_
                          refine s_iload C 0 dX8_readLog_220 rfl ?_
                          refine s_if_eqN 289 C dX8_readLog_222 (by decide) (by omega) (fun h222 => ?_) (fun h222 => ?_)
                          · refine s_aload_n C 4 dX8_readLog_289 rfl ?_
                            refine s_iload C 8 dX8_readLog_290 rfl ?_
                            refine s_putI (ty := .int) C 8 15 tyX8 tyX8_ok nmX8 (by decide) rfl (by decide) rfl (fun _ h => List.mem_cons_of_mem _ (List.mem_append_right _ h)) (by decide) rfl (by decide +kernel) rfl (by decide +kernel) rfl rfl dX8_readLog_292 ?_
                            refine s_iinc (u := nI (k + 1)) (lv' := [(4, .int (nI (k + 1))), (8, .int (nI 0)), (7, .int (nI (ih_now (ih_lg T (60 * sn + ii) k).2.1))), (6, .int (nI an)), (5, .int (nI (((60 * sn) + ii) + (3 * k)))), (0, .ref (w.2.2 0)), (1, .int (nI sn)), (2, .int (nI ii)), (3, .int (nI nn))]) C 8 dX8_readLog_295 rfl (ih_incN (by decide)) (by decide) rfl ?_
                            refine s_goto C 96 dX8_readLog_298 (by decide) ?_
                            refine s_perm [5, 6, 7, 8, 0] rfl ?_
                            exact ih_96 (k + 1) (by omega) _ ⟨ih_RM_h hM rfl, by rw [ih_lg_b hcl (fun q => h191 (by have := q.2.2.2.1; rw [hani] at this; exact this))]; exact ih_LS_b hq⟩
                          · exact absurd h222 (by decide)
                        · refine s_iload C 0 dX8_readLog_194 rfl ?_
                          refine s_iload C 1 dX8_readLog_196 rfl ?_
                          refine s_callSi 2 C (c_X8_runs _ w _ (ih_now (ih_lg T (60 * sn + ii) k).2.1) an hnow (by omega)) gX8_readLog_X8_runs rfl (by decide +kernel) (by decide) (by decide) rfl rfl (Nat.le_of_ble_eq_true rfl) dX8_readLog_198 ?_
                          rintro rr S2 ⟨hrr, hSS⟩
                          obtain rfl := hSS.symm
                          subst hrr
                          refine s_aload_n C 3 dX8_readLog_201 rfl ?_
                          refine s_getR C 8 4 (hM.1 _ _ _ rfl) (by decide) rfl (by decide) rfl (fun _ h => List.mem_cons_of_mem _ (List.mem_append_right _ h)) (by decide) rfl (by decide +kernel) dX8_readLog_202 ?_
                          refine s_iload C 2 dX8_readLog_205 rfl ?_
                          refine s_iconst (v := nI 2) C dX8_readLog_207 (by decide) ?_
                          refine s_iaddN C dX8_readLog_208 ?_
                          refine s_iaload C 480 ((((60 * sn) + ii) + (3 * k)) + 2) rfl rfl (by omega) (by decide) (by decide) rfl dX8_readLog_209 ?_
                          refine s_toe (b := T 3 ((((60 * sn) + ii) + (3 * k)) + 2)) (hM.2 _ _ rfl) ?_
                          refine s_icmp_ne C 217 dX8_readLog_210 (by decide) (fun h210 => ?_) (fun h210 => ?_)
                          · refine s_iconst (v := nI 0) C dX8_readLog_217 (by decide) ?_
                            refine s_istore (lv' := [(8, .int (nI 0)), (7, .int (nI (ih_now (ih_lg T (60 * sn + ii) k).2.1))), (6, .int (nI an)), (5, .int (nI (((60 * sn) + ii) + (3 * k)))), (0, .ref (w.2.2 0)), (1, .int (nI sn)), (2, .int (nI ii)), (3, .int (nI nn)), (4, .int (nI k))]) C dX8_readLog_218 (by decide) rfl ?_
                            refine s_iload C 0 dX8_readLog_220 rfl ?_
                            refine s_if_eqN 289 C dX8_readLog_222 (by decide) (by omega) (fun h222 => ?_) (fun h222 => ?_)
                            · refine s_aload_n C 4 dX8_readLog_289 rfl ?_
                              refine s_iload C 8 dX8_readLog_290 rfl ?_
                              refine s_putI (ty := .int) C 8 15 tyX8 tyX8_ok nmX8 (by decide) rfl (by decide) rfl (fun _ h => List.mem_cons_of_mem _ (List.mem_append_right _ h)) (by decide) rfl (by decide +kernel) rfl (by decide +kernel) rfl rfl dX8_readLog_292 ?_
                              refine s_iinc (u := nI (k + 1)) (lv' := [(4, .int (nI (k + 1))), (8, .int (nI 0)), (7, .int (nI (ih_now (ih_lg T (60 * sn + ii) k).2.1))), (6, .int (nI an)), (5, .int (nI (((60 * sn) + ii) + (3 * k)))), (0, .ref (w.2.2 0)), (1, .int (nI sn)), (2, .int (nI ii)), (3, .int (nI nn))]) C 8 dX8_readLog_295 rfl (ih_incN (by decide)) (by decide) rfl ?_
                              refine s_goto C 96 dX8_readLog_298 (by decide) ?_
                              refine s_perm [5, 6, 7, 8, 0] rfl ?_
                              exact ih_96 (k + 1) (by omega) _ ⟨ih_RM_h hM rfl, by rw [ih_lg_b hcl (fun q => h210 (by have := q.2.2.2.2; rw [hani] at this; exact this))]; exact ih_LS_b hq⟩
                            · exact absurd h222 (by decide)
                          · refine s_iconst (v := nI 1) C dX8_readLog_213 (by decide) ?_
                            refine s_goto C 218 dX8_readLog_214 (by decide) ?_
                            refine s_istore (lv' := [(8, .int (nI 1)), (7, .int (nI (ih_now (ih_lg T (60 * sn + ii) k).2.1))), (6, .int (nI an)), (5, .int (nI (((60 * sn) + ii) + (3 * k)))), (0, .ref (w.2.2 0)), (1, .int (nI sn)), (2, .int (nI ii)), (3, .int (nI nn)), (4, .int (nI k))]) C dX8_readLog_218 (by decide) rfl ?_
                            refine s_iload C 0 dX8_readLog_220 rfl ?_
                            refine s_if_eqN 289 C dX8_readLog_222 (by decide) (by omega) (fun h222 => ?_) (fun h222 => ?_)
                            · exact absurd h222 (by decide)
                            · refine s_aload_n C 4 dX8_readLog_225 rfl ?_
                              refine s_getR C 8 19 (hM.1 _ _ _ rfl) (by decide) rfl (by decide) rfl (fun _ h => List.mem_cons_of_mem _ (List.mem_append_right _ h)) (by decide) rfl (by decide +kernel) dX8_readLog_226 ?_
                              refine s_iload C 2 dX8_readLog_229 rfl ?_
                              refine s_dup2 C dX8_readLog_231 rfl rfl ?_
                              refine s_iaload C 9 (an) rfl rfl (by omega) (by decide) (by decide) rfl dX8_readLog_232 ?_
                              refine s_toe (b := nI ((ih_lg T (60 * sn + ii) k).2.2.2.2 an)) (hq.2.2.2.2 an (by omega)) ?_
                              refine s_iconst (v := nI 1) C dX8_readLog_233 (by decide) ?_
                              refine s_iaddN C dX8_readLog_234 ?_
                              refine s_iastore C 9 (an) rfl rfl (by omega) (by decide) (by decide) rfl dX8_readLog_235 ?_
                              refine s_aload_n C 4 dX8_readLog_236 rfl ?_
                              refine s_dup C dX8_readLog_237 rfl ?_
                              refine s_getI C 8 16 (by decide) rfl (by decide) rfl (fun _ h => List.mem_cons_of_mem _ (List.mem_append_right _ h)) (by decide) rfl (by decide +kernel) dX8_readLog_238 ?_
                              refine s_toe (b := nI ((ih_lg T (60 * sn + ii) k).2.2.1)) hq.2.2.1 ?_
                              refine s_iload C 1 dX8_readLog_241 rfl ?_
                              refine s_iload C 2 dX8_readLog_243 rfl ?_
                              refine s_callSi 2 C (c_X8_runs _ w _ (ih_now (ih_lg T (60 * sn + ii) k).2.1) an hnow (by omega)) gX8_readLog_X8_runs rfl (by decide +kernel) (by decide) (by decide) rfl rfl (Nat.le_of_ble_eq_true rfl) dX8_readLog_245 ?_
                              rintro rr S2 ⟨hrr, hSS⟩
                              obtain rfl := hSS.symm
                              subst hrr
                              refine s_iaddN C dX8_readLog_248 ?_
                              refine s_putI (ty := .int) C 8 16 tyX8 tyX8_ok nmX8 (by decide) rfl (by decide) rfl (fun _ h => List.mem_cons_of_mem _ (List.mem_append_right _ h)) (by decide) rfl (by decide +kernel) rfl (by decide +kernel) rfl rfl dX8_readLog_249 ?_
                              refine s_aload_n C 4 dX8_readLog_252 rfl ?_
                              refine s_iload C 1 dX8_readLog_253 rfl ?_
                              refine s_iload C 2 dX8_readLog_255 rfl ?_
                              refine s_callSi 2 C (c_X8_next _ w _ (ih_now (ih_lg T (60 * sn + ii) k).2.1) an hnow (by omega)) gX8_readLog_X8_next rfl (by decide +kernel) (by decide) (by decide) rfl rfl (Nat.le_of_ble_eq_true rfl) dX8_readLog_257 ?_
                              rintro rr S2 ⟨hrr, hSS⟩
                              obtain rfl := hSS.symm
                              subst hrr
                              have hnxl := ih_nx_le _ hnow an (by omega)
                              refine s_putI (ty := .int) C 8 18 tyX8 tyX8_ok nmX8 (by decide) rfl (by decide) rfl (fun _ h => List.mem_cons_of_mem _ (List.mem_append_right _ h)) (by decide) rfl (by decide +kernel) rfl (by decide +kernel) rfl rfl dX8_readLog_260 ?_
                              refine s_aload_n C 4 dX8_readLog_263 rfl ?_
                              refine s_dup C dX8_readLog_264 rfl ?_
                              refine s_getI C 8 17 (by decide) rfl (by decide) rfl (fun _ h => List.mem_cons_of_mem _ (List.mem_append_right _ h)) (by decide) rfl (by decide +kernel) dX8_readLog_265 ?_
                              refine s_toe (b := nI ((ih_lg T (60 * sn + ii) k).2.2.2.1)) hq.2.2.2.1 ?_
                              refine s_aload_n C 4 dX8_readLog_268 rfl ?_
                              refine s_getI C 8 18 (by decide) rfl (by decide) rfl (fun _ h => List.mem_cons_of_mem _ (List.mem_append_right _ h)) (by decide) rfl (by decide +kernel) dX8_readLog_269 ?_
                              refine s_toe (b := nI (ih_nx (ih_now (ih_lg T (60 * sn + ii) k).2.1) an)) rfl ?_
                              refine s_bipush (v := nI 24) C dX8_readLog_272 (by decide) ?_
                              refine s_icmp_neN 281 C dX8_readLog_274 (by decide) (by omega) (by omega) (fun h274 => ?_) (fun h274 => ?_)
                              · refine s_iconst (v := nI 0) C dX8_readLog_281 (by decide) ?_
                                refine s_iaddN C dX8_readLog_282 ?_
                                refine s_putI (ty := .int) C 8 17 tyX8 tyX8_ok nmX8 (by decide) rfl (by decide) rfl (fun _ h => List.mem_cons_of_mem _ (List.mem_append_right _ h)) (by decide) rfl (by decide +kernel) rfl (by decide +kernel) rfl rfl dX8_readLog_283 ?_
                                refine s_goto C 295 dX8_readLog_286 (by decide) ?_
                                refine s_iinc (u := nI (k + 1)) (lv' := [(4, .int (nI (k + 1))), (8, .int (nI 1)), (7, .int (nI (ih_now (ih_lg T (60 * sn + ii) k).2.1))), (6, .int (nI an)), (5, .int (nI (((60 * sn) + ii) + (3 * k)))), (0, .ref (w.2.2 0)), (1, .int (nI sn)), (2, .int (nI ii)), (3, .int (nI nn))]) C 8 dX8_readLog_295 rfl (ih_incN (by decide)) (by decide) rfl ?_
                                refine s_goto C 96 dX8_readLog_298 (by decide) ?_
                                refine s_perm [5, 6, 7, 8, 0] rfl ?_
                                refine ih_96 (k + 1) (by omega) _ ⟨ih_RM_h (ih_RM_h (ih_RM_h (ih_RM_h hM rfl) rfl) rfl) rfl, ?_⟩
                                rw [ih_lg_s hcl ⟨h162.1, h162.2, by rw [hani]; exact h172, by rw [hani]; exact h191, by rw [hani]; exact h210⟩, hani]
                                rw [if_neg h274]
                                exact ih_LS_s (by rw [← hcl]; exact hq) (fun b => rfl)
                              · refine s_iconst (v := nI 1) C dX8_readLog_277 (by decide) ?_
                                refine s_goto C 282 dX8_readLog_278 (by decide) ?_
                                refine s_iaddN C dX8_readLog_282 ?_
                                refine s_putI (ty := .int) C 8 17 tyX8 tyX8_ok nmX8 (by decide) rfl (by decide) rfl (fun _ h => List.mem_cons_of_mem _ (List.mem_append_right _ h)) (by decide) rfl (by decide +kernel) rfl (by decide +kernel) rfl rfl dX8_readLog_283 ?_
                                refine s_goto C 295 dX8_readLog_286 (by decide) ?_
                                refine s_iinc (u := nI (k + 1)) (lv' := [(4, .int (nI (k + 1))), (8, .int (nI 1)), (7, .int (nI (ih_now (ih_lg T (60 * sn + ii) k).2.1))), (6, .int (nI an)), (5, .int (nI (((60 * sn) + ii) + (3 * k)))), (0, .ref (w.2.2 0)), (1, .int (nI sn)), (2, .int (nI ii)), (3, .int (nI nn))]) C 8 dX8_readLog_295 rfl (ih_incN (by decide)) (by decide) rfl ?_
                                refine s_goto C 96 dX8_readLog_298 (by decide) ?_
                                refine s_perm [5, 6, 7, 8, 0] rfl ?_
                                refine ih_96 (k + 1) (by omega) _ ⟨ih_RM_h (ih_RM_h (ih_RM_h (ih_RM_h hM rfl) rfl) rfl) rfl, ?_⟩
                                rw [ih_lg_s hcl ⟨h162.1, h162.2, by rw [hani]; exact h172, by rw [hani]; exact h191, by rw [hani]; exact h210⟩, hani]
                                rw [if_pos h274]
                                exact ih_LS_s (by rw [← hcl]; exact hq) (fun b => rfl)
                  · refine s_iconst (v := nI 0) C dX8_readLog_142 (by decide) ?_
                    refine s_goto C 150 dX8_readLog_143 (by decide) ?_
                    refine s_toe (b := nI (ih_now (ih_lg T (60 * sn + ii) k).2.1)) (congrArg nI (by rw [ih_now, if_pos h139])) ?_
                    refine s_istore (lv' := [(7, .int (nI (ih_now (ih_lg T (60 * sn + ii) k).2.1))), (6, .int (T 3 (((60 * sn) + ii) + (3 * k)))), (5, .int (nI (((60 * sn) + ii) + (3 * k)))), (0, .ref (w.2.2 0)), (1, .int (nI sn)), (2, .int (nI ii)), (3, .int (nI nn)), (4, .int (nI k))]) C dX8_readLog_150 (by decide) rfl ?_
                    refine s_iload C 1 dX8_readLog_152 rfl ?_
                    refine s_i2l C dX8_readLog_154 ?_
                    refine s_lconst (v := lN 0) C dX8_readLog_155 rfl ?_
                    refine s_ldc2 (v := lN 8) C (by decide +kernel) dX8_readLog_156 ?_
                    refine s_callSi 3 C (c_X8_in _ w _ _ _ _ _) gX8_readLog_X8_in rfl (by decide +kernel) (by decide) (by decide) rfl rfl (Nat.le_of_ble_eq_true rfl) dX8_readLog_159 ?_
                    rintro rb159 S2 ⟨hrb159, rfl⟩
                    rw [ih_wide, ih_tl (by decide), ih_tl (by decide)] at hrb159
                    refine s_if_eq C 217 dX8_readLog_162 (by decide) (fun h162 => ?_) (fun h162 => ?_)
                    · replace h162 := ih_b0 hrb159 h162
                      refine s_iconst (v := nI 0) C dX8_readLog_217 (by decide) ?_
                      refine s_istore (lv' := [(8, .int (nI 0)), (7, .int (nI (ih_now (ih_lg T (60 * sn + ii) k).2.1))), (6, .int (T 3 (((60 * sn) + ii) + (3 * k)))), (5, .int (nI (((60 * sn) + ii) + (3 * k)))), (0, .ref (w.2.2 0)), (1, .int (nI sn)), (2, .int (nI ii)), (3, .int (nI nn)), (4, .int (nI k))]) C dX8_readLog_218 (by decide) rfl ?_
                      refine s_iload C 0 dX8_readLog_220 rfl ?_
                      refine s_if_eqN 289 C dX8_readLog_222 (by decide) (by omega) (fun h222 => ?_) (fun h222 => ?_)
                      · refine s_aload_n C 4 dX8_readLog_289 rfl ?_
                        refine s_iload C 8 dX8_readLog_290 rfl ?_
                        refine s_putI (ty := .int) C 8 15 tyX8 tyX8_ok nmX8 (by decide) rfl (by decide) rfl (fun _ h => List.mem_cons_of_mem _ (List.mem_append_right _ h)) (by decide) rfl (by decide +kernel) rfl (by decide +kernel) rfl rfl dX8_readLog_292 ?_
                        refine s_iinc (u := nI (k + 1)) (lv' := [(4, .int (nI (k + 1))), (8, .int (nI 0)), (7, .int (nI (ih_now (ih_lg T (60 * sn + ii) k).2.1))), (6, .int (T 3 (((60 * sn) + ii) + (3 * k)))), (5, .int (nI (((60 * sn) + ii) + (3 * k)))), (0, .ref (w.2.2 0)), (1, .int (nI sn)), (2, .int (nI ii)), (3, .int (nI nn))]) C 8 dX8_readLog_295 rfl (ih_incN (by decide)) (by decide) rfl ?_
                        refine s_goto C 96 dX8_readLog_298 (by decide) ?_
                        refine s_perm [5, 6, 7, 8, 0] rfl ?_
                        exact ih_96 (k + 1) (by omega) _ ⟨ih_RM_h hM rfl, by rw [ih_lg_b hcl (fun q => h162 ⟨q.1, q.2.1⟩)]; exact ih_LS_b hq⟩
                      · exact absurd h222 (by decide)
                    · replace h162 := ih_b1 hrb159 h162
                      obtain ⟨an, han, hane, hant⟩ := ih_nat (a := T 3 (60 * sn + ii + 3 * k)) h162.1
                      have hani : ih_n (T 3 (60 * sn + ii + 3 * k)) = an := ih_n_of hane han
                      rw [hane]
                      refine s_iload C 0 dX8_readLog_165 rfl ?_
                      refine s_iload C 1 dX8_readLog_167 rfl ?_
                      refine s_callSi 2 C (c_X8_mayBe _ w _ (ih_now (ih_lg T (60 * sn + ii) k).2.1) an hnow (by omega)) gX8_readLog_X8_mayBe rfl (by decide +kernel) (by decide) (by decide) rfl rfl (Nat.le_of_ble_eq_true rfl) dX8_readLog_169 ?_
                      rintro rm169 S2 ⟨hrm169, rfl⟩
                      refine s_if_eq C 217 dX8_readLog_172 (by decide) (fun h172 => ?_) (fun h172 => ?_)
                      · replace h172 := ih_b0 hrm169 h172
                        refine s_iconst (v := nI 0) C dX8_readLog_217 (by decide) ?_
                        refine s_istore (lv' := [(8, .int (nI 0)), (7, .int (nI (ih_now (ih_lg T (60 * sn + ii) k).2.1))), (6, .int (nI an)), (5, .int (nI (((60 * sn) + ii) + (3 * k)))), (0, .ref (w.2.2 0)), (1, .int (nI sn)), (2, .int (nI ii)), (3, .int (nI nn)), (4, .int (nI k))]) C dX8_readLog_218 (by decide) rfl ?_
                        refine s_iload C 0 dX8_readLog_220 rfl ?_
                        refine s_if_eqN 289 C dX8_readLog_222 (by decide) (by omega) (fun h222 => ?_) (fun h222 => ?_)
                        · refine s_aload_n C 4 dX8_readLog_289 rfl ?_
                          refine s_iload C 8 dX8_readLog_290 rfl ?_
                          refine s_putI (ty := .int) C 8 15 tyX8 tyX8_ok nmX8 (by decide) rfl (by decide) rfl (fun _ h => List.mem_cons_of_mem _ (List.mem_append_right _ h)) (by decide) rfl (by decide +kernel) rfl (by decide +kernel) rfl rfl dX8_readLog_292 ?_
                          refine s_iinc (u := nI (k + 1)) (lv' := [(4, .int (nI (k + 1))), (8, .int (nI 0)), (7, .int (nI (ih_now (ih_lg T (60 * sn + ii) k).2.1))), (6, .int (nI an)), (5, .int (nI (((60 * sn) + ii) + (3 * k)))), (0, .ref (w.2.2 0)), (1, .int (nI sn)), (2, .int (nI ii)), (3, .int (nI nn))]) C 8 dX8_readLog_295 rfl (ih_incN (by decide)) (by decide) rfl ?_
                          refine s_goto C 96 dX8_readLog_298 (by decide) ?_
                          refine s_perm [5, 6, 7, 8, 0] rfl ?_
                          exact ih_96 (k + 1) (by omega) _ ⟨ih_RM_h hM rfl, by rw [ih_lg_b hcl (fun q => h172 (by have := q.2.2.1; rw [hani] at this; exact this))]; exact ih_LS_b hq⟩
                        · exact absurd h222 (by decide)
                      · replace h172 := ih_b1 hrm169 h172
                        refine s_iload C 0 dX8_readLog_175 rfl ?_
                        refine s_iload C 1 dX8_readLog_177 rfl ?_
                        refine s_callSi 2 C (c_X8_next _ w _ (ih_now (ih_lg T (60 * sn + ii) k).2.1) an hnow (by omega)) gX8_readLog_X8_next rfl (by decide +kernel) (by decide) (by decide) rfl rfl (Nat.le_of_ble_eq_true rfl) dX8_readLog_179 ?_
                        rintro rr S2 ⟨hrr, hSS⟩
                        obtain rfl := hSS.symm
                        subst hrr
                        have hnxl := ih_nx_le _ hnow an (by omega)
                        refine s_aload_n C 3 dX8_readLog_182 rfl ?_
                        refine s_getR C 8 4 (hM.1 _ _ _ rfl) (by decide) rfl (by decide) rfl (fun _ h => List.mem_cons_of_mem _ (List.mem_append_right _ h)) (by decide) rfl (by decide +kernel) dX8_readLog_183 ?_
                        refine s_iload C 2 dX8_readLog_186 rfl ?_
                        refine s_iconst (v := nI 1) C dX8_readLog_188 (by decide) ?_
                        refine s_iaddN C dX8_readLog_189 ?_
                        refine s_iaload C 480 ((((60 * sn) + ii) + (3 * k)) + 1) rfl rfl (by omega) (by decide) (by decide) rfl dX8_readLog_190 ?_
                        refine s_toe (b := T 3 ((((60 * sn) + ii) + (3 * k)) + 1)) (hM.2 _ _ rfl) ?_
                        refine s_icmp_ne C 217 dX8_readLog_191 (by decide) (fun h191 => ?_) (fun h191 => ?_)
                        · refine s_iconst (v := nI 0) C dX8_readLog_217 (by decide) ?_
                          refine s_istore (lv' := [(8, .int (nI 0)), (7, .int (nI (ih_now (ih_lg T (60 * sn + ii) k).2.1))), (6, .int (nI an)), (5, .int (nI (((60 * sn) + ii) + (3 * k)))), (0, .ref (w.2.2 0)), (1, .int (nI sn)), (2, .int (nI ii)), (3, .int (nI nn)), (4, .int (nI k))]) C dX8_readLog_218 (by decide) rfl ?_
                          refine s_iload C 0 dX8_readLog_220 rfl ?_
                          refine s_if_eqN 289 C dX8_readLog_222 (by decide) (by omega) (fun h222 => ?_) (fun h222 => ?_)
                          · refine s_aload_n C 4 dX8_readLog_289 rfl ?_
                            refine s_iload C 8 dX8_readLog_290 rfl ?_
                            refine s_putI (ty := .int) C 8 15 tyX8 tyX8_ok nmX8 (by decide) rfl (by decide) rfl (fun _ h => List.mem_cons_of_mem _ (List.mem_append_right _ h)) (by decide) rfl (by decide +kernel) rfl (by decide +kernel) rfl rfl dX8_readLog_292 ?_
                            refine s_iinc (u := nI (k + 1)) (lv' := [(4, .int (nI (k + 1))), (8, .int (nI 0)), (7, .int (nI (ih_now (ih_lg T (60 * sn + ii) k).2.1))), (6, .int (nI an)), (5, .int (nI (((60 * sn) + ii) + (3 * k)))), (0, .ref (w.2.2 0)), (1, .int (nI sn)), (2, .int (nI ii)), (3, .int (nI nn))]) C 8 dX8_readLog_295 rfl (ih_incN (by decide)) (by decide) rfl ?_
                            refine s_goto C 96 dX8_readLog_298 (by decide) ?_
                            refine s_perm [5, 6, 7, 8, 0] rfl ?_
                            exact ih_96 (k + 1) (by omega) _ ⟨ih_RM_h hM rfl, by rw [ih_lg_b hcl (fun q => h191 (by have := q.2.2.2.1; rw [hani] at this; exact this))]; exact ih_LS_b hq⟩
                          · exact absurd h222 (by decide)
                        · refine s_iload C 0 dX8_readLog_194 rfl ?_
                          refine s_iload C 1 dX8_readLog_196 rfl ?_
                          refine s_callSi 2 C (c_X8_runs _ w _ (ih_now (ih_lg T (60 * sn + ii) k).2.1) an hnow (by omega)) gX8_readLog_X8_runs rfl (by decide +kernel) (by decide) (by decide) rfl rfl (Nat.le_of_ble_eq_true rfl) dX8_readLog_198 ?_
                          rintro rr S2 ⟨hrr, hSS⟩
                          obtain rfl := hSS.symm
                          subst hrr
                          refine s_aload_n C 3 dX8_readLog_201 rfl ?_
                          refine s_getR C 8 4 (hM.1 _ _ _ rfl) (by decide) rfl (by decide) rfl (fun _ h => List.mem_cons_of_mem _ (List.mem_append_right _ h)) (by decide) rfl (by decide +kernel) dX8_readLog_202 ?_
                          refine s_iload C 2 dX8_readLog_205 rfl ?_
                          refine s_iconst (v := nI 2) C dX8_readLog_207 (by decide) ?_
                          refine s_iaddN C dX8_readLog_208 ?_
                          refine s_iaload C 480 ((((60 * sn) + ii) + (3 * k)) + 2) rfl rfl (by omega) (by decide) (by decide) rfl dX8_readLog_209 ?_
                          refine s_toe (b := T 3 ((((60 * sn) + ii) + (3 * k)) + 2)) (hM.2 _ _ rfl) ?_
                          refine s_icmp_ne C 217 dX8_readLog_210 (by decide) (fun h210 => ?_) (fun h210 => ?_)
                          · refine s_iconst (v := nI 0) C dX8_readLog_217 (by decide) ?_
                            refine s_istore (lv' := [(8, .int (nI 0)), (7, .int (nI (ih_now (ih_lg T (60 * sn + ii) k).2.1))), (6, .int (nI an)), (5, .int (nI (((60 * sn) + ii) + (3 * k)))), (0, .ref (w.2.2 0)), (1, .int (nI sn)), (2, .int (nI ii)), (3, .int (nI nn)), (4, .int (nI k))]) C dX8_readLog_218 (by decide) rfl ?_
                            refine s_iload C 0 dX8_readLog_220 rfl ?_
                            refine s_if_eqN 289 C dX8_readLog_222 (by decide) (by omega) (fun h222 => ?_) (fun h222 => ?_)
                            · refine s_aload_n C 4 dX8_readLog_289 rfl ?_
                              refine s_iload C 8 dX8_readLog_290 rfl ?_
                              refine s_putI (ty := .int) C 8 15 tyX8 tyX8_ok nmX8 (by decide) rfl (by decide) rfl (fun _ h => List.mem_cons_of_mem _ (List.mem_append_right _ h)) (by decide) rfl (by decide +kernel) rfl (by decide +kernel) rfl rfl dX8_readLog_292 ?_
                              refine s_iinc (u := nI (k + 1)) (lv' := [(4, .int (nI (k + 1))), (8, .int (nI 0)), (7, .int (nI (ih_now (ih_lg T (60 * sn + ii) k).2.1))), (6, .int (nI an)), (5, .int (nI (((60 * sn) + ii) + (3 * k)))), (0, .ref (w.2.2 0)), (1, .int (nI sn)), (2, .int (nI ii)), (3, .int (nI nn))]) C 8 dX8_readLog_295 rfl (ih_incN (by decide)) (by decide) rfl ?_
                              refine s_goto C 96 dX8_readLog_298 (by decide) ?_
                              refine s_perm [5, 6, 7, 8, 0] rfl ?_
                              exact ih_96 (k + 1) (by omega) _ ⟨ih_RM_h hM rfl, by rw [ih_lg_b hcl (fun q => h210 (by have := q.2.2.2.2; rw [hani] at this; exact this))]; exact ih_LS_b hq⟩
                            · exact absurd h222 (by decide)
                          · refine s_iconst (v := nI 1) C dX8_readLog_213 (by decide) ?_
                            refine s_goto C 218 dX8_readLog_214 (by decide) ?_
                            refine s_istore (lv' := [(8, .int (nI 1)), (7, .int (nI (ih_now (ih_lg T (60 * sn + ii) k).2.1))), (6, .int (nI an)), (5, .int (nI (((60 * sn) + ii) + (3 * k)))), (0, .ref (w.2.2 0)), (1, .int (nI sn)), (2, .int (nI ii)), (3, .int (nI nn)), (4, .int (nI k))]) C dX8_readLog_218 (by decide) rfl ?_
                            refine s_iload C 0 dX8_readLog_220 rfl ?_
                            refine s_if_eqN 289 C dX8_readLog_222 (by decide) (by omega) (fun h222 => ?_) (fun h222 => ?_)
                            · exact absurd h222 (by decide)
                            · refine s_aload_n C 4 dX8_readLog_225 rfl ?_
                              refine s_getR C 8 19 (hM.1 _ _ _ rfl) (by decide) rfl (by decide) rfl (fun _ h => List.mem_cons_of_mem _ (List.mem_append_right _ h)) (by decide) rfl (by decide +kernel) dX8_readLog_226 ?_
                              refine s_iload C 2 dX8_readLog_229 rfl ?_
                              refine s_dup2 C dX8_readLog_231 rfl rfl ?_
                              refine s_iaload C 9 (an) rfl rfl (by omega) (by decide) (by decide) rfl dX8_readLog_232 ?_
                              refine s_toe (b := nI ((ih_lg T (60 * sn + ii) k).2.2.2.2 an)) (hq.2.2.2.2 an (by omega)) ?_
                              refine s_iconst (v := nI 1) C dX8_readLog_233 (by decide) ?_
                              refine s_iaddN C dX8_readLog_234 ?_
                              refine s_iastore C 9 (an) rfl rfl (by omega) (by decide) (by decide) rfl dX8_readLog_235 ?_
                              refine s_aload_n C 4 dX8_readLog_236 rfl ?_
                              refine s_dup C dX8_readLog_237 rfl ?_
                              refine s_getI C 8 16 (by decide) rfl (by decide) rfl (fun _ h => List.mem_cons_of_mem _ (List.mem_append_right _ h)) (by decide) rfl (by decide +kernel) dX8_readLog_238 ?_
                              refine s_toe (b := nI ((ih_lg T (60 * sn + ii) k).2.2.1)) hq.2.2.1 ?_
                              refine s_iload C 1 dX8_readLog_241 rfl ?_
                              refine s_iload C 2 dX8_readLog_243 rfl ?_
                              refine s_callSi 2 C (c_X8_runs _ w _ (ih_now (ih_lg T (60 * sn + ii) k).2.1) an hnow (by omega)) gX8_readLog_X8_runs rfl (by decide +kernel) (by decide) (by decide) rfl rfl (Nat.le_of_ble_eq_true rfl) dX8_readLog_245 ?_
                              rintro rr S2 ⟨hrr, hSS⟩
                              obtain rfl := hSS.symm
                              subst hrr
                              refine s_iaddN C dX8_readLog_248 ?_
                              refine s_putI (ty := .int) C 8 16 tyX8 tyX8_ok nmX8 (by decide) rfl (by decide) rfl (fun _ h => List.mem_cons_of_mem _ (List.mem_append_right _ h)) (by decide) rfl (by decide +kernel) rfl (by decide +kernel) rfl rfl dX8_readLog_249 ?_
                              refine s_aload_n C 4 dX8_readLog_252 rfl ?_
                              refine s_iload C 1 dX8_readLog_253 rfl ?_
                              refine s_iload C 2 dX8_readLog_255 rfl ?_
                              refine s_callSi 2 C (c_X8_next _ w _ (ih_now (ih_lg T (60 * sn + ii) k).2.1) an hnow (by omega)) gX8_readLog_X8_next rfl (by decide +kernel) (by decide) (by decide) rfl rfl (Nat.le_of_ble_eq_true rfl) dX8_readLog_257 ?_
                              rintro rr S2 ⟨hrr, hSS⟩
                              obtain rfl := hSS.symm
                              subst hrr
                              have hnxl := ih_nx_le _ hnow an (by omega)
                              refine s_putI (ty := .int) C 8 18 tyX8 tyX8_ok nmX8 (by decide) rfl (by decide) rfl (fun _ h => List.mem_cons_of_mem _ (List.mem_append_right _ h)) (by decide) rfl (by decide +kernel) rfl (by decide +kernel) rfl rfl dX8_readLog_260 ?_
                              refine s_aload_n C 4 dX8_readLog_263 rfl ?_
                              refine s_dup C dX8_readLog_264 rfl ?_
                              refine s_getI C 8 17 (by decide) rfl (by decide) rfl (fun _ h => List.mem_cons_of_mem _ (List.mem_append_right _ h)) (by decide) rfl (by decide +kernel) dX8_readLog_265 ?_
                              refine s_toe (b := nI ((ih_lg T (60 * sn + ii) k).2.2.2.1)) hq.2.2.2.1 ?_
                              refine s_aload_n C 4 dX8_readLog_268 rfl ?_
                              refine s_getI C 8 18 (by decide) rfl (by decide) rfl (fun _ h => List.mem_cons_of_mem _ (List.mem_append_right _ h)) (by decide) rfl (by decide +kernel) dX8_readLog_269 ?_
                              refine s_toe (b := nI (ih_nx (ih_now (ih_lg T (60 * sn + ii) k).2.1) an)) rfl ?_
                              refine s_bipush (v := nI 24) C dX8_readLog_272 (by decide) ?_
                              refine s_icmp_neN 281 C dX8_readLog_274 (by decide) (by omega) (by omega) (fun h274 => ?_) (fun h274 => ?_)
                              · refine s_iconst (v := nI 0) C dX8_readLog_281 (by decide) ?_
                                refine s_iaddN C dX8_readLog_282 ?_
                                refine s_putI (ty := .int) C 8 17 tyX8 tyX8_ok nmX8 (by decide) rfl (by decide) rfl (fun _ h => List.mem_cons_of_mem _ (List.mem_append_right _ h)) (by decide) rfl (by decide +kernel) rfl (by decide +kernel) rfl rfl dX8_readLog_283 ?_
                                refine s_goto C 295 dX8_readLog_286 (by decide) ?_
                                refine s_iinc (u := nI (k + 1)) (lv' := [(4, .int (nI (k + 1))), (8, .int (nI 1)), (7, .int (nI (ih_now (ih_lg T (60 * sn + ii) k).2.1))), (6, .int (nI an)), (5, .int (nI (((60 * sn) + ii) + (3 * k)))), (0, .ref (w.2.2 0)), (1, .int (nI sn)), (2, .int (nI ii)), (3, .int (nI nn))]) C 8 dX8_readLog_295 rfl (ih_incN (by decide)) (by decide) rfl ?_
                                refine s_goto C 96 dX8_readLog_298 (by decide) ?_
                                refine s_perm [5, 6, 7, 8, 0] rfl ?_
                                refine ih_96 (k + 1) (by omega) _ ⟨ih_RM_h (ih_RM_h (ih_RM_h (ih_RM_h hM rfl) rfl) rfl) rfl, ?_⟩
                                rw [ih_lg_s hcl ⟨h162.1, h162.2, by rw [hani]; exact h172, by rw [hani]; exact h191, by rw [hani]; exact h210⟩, hani]
                                rw [if_neg h274]
                                exact ih_LS_s (by rw [← hcl]; exact hq) (fun b => rfl)
                              · refine s_iconst (v := nI 1) C dX8_readLog_277 (by decide) ?_
                                refine s_goto C 282 dX8_readLog_278 (by decide) ?_
                                refine s_iaddN C dX8_readLog_282 ?_
                                refine s_putI (ty := .int) C 8 17 tyX8 tyX8_ok nmX8 (by decide) rfl (by decide) rfl (fun _ h => List.mem_cons_of_mem _ (List.mem_append_right _ h)) (by decide) rfl (by decide +kernel) rfl (by decide +kernel) rfl rfl dX8_readLog_283 ?_
                                refine s_goto C 295 dX8_readLog_286 (by decide) ?_
                                refine s_iinc (u := nI (k + 1)) (lv' := [(4, .int (nI (k + 1))), (8, .int (nI 1)), (7, .int (nI (ih_now (ih_lg T (60 * sn + ii) k).2.1))), (6, .int (nI an)), (5, .int (nI (((60 * sn) + ii) + (3 * k)))), (0, .ref (w.2.2 0)), (1, .int (nI sn)), (2, .int (nI ii)), (3, .int (nI nn))]) C 8 dX8_readLog_295 rfl (ih_incN (by decide)) (by decide) rfl ?_
                                refine s_goto C 96 dX8_readLog_298 (by decide) ?_
                                refine s_perm [5, 6, 7, 8, 0] rfl ?_
                                refine ih_96 (k + 1) (by omega) _ ⟨ih_RM_h (ih_RM_h (ih_RM_h (ih_RM_h hM rfl) rfl) rfl) rfl, ?_⟩
                                rw [ih_lg_s hcl ⟨h162.1, h162.2, by rw [hani]; exact h172, by rw [hani]; exact h191, by rw [hani]; exact h210⟩, hani]
                                rw [if_pos h274]
                                exact ih_LS_s (by rw [← hcl]; exact hq) (fun b => rfl)
          refine s_perm [1, 2, 3, 4, 0] rfl ?_
          exact loop_96 nn 0 (by omega) _ ⟨hM, hz1, hz2, hz3, hz4, hz5⟩
        have loop_72 : ∀ (fu k : Nat), k + fu = 9 → ∀ S, ih_RM S (ih_u2 T 0 1 (nI 0)) ∧ S.1 0 15 = -1000000 ∧ S.1 0 18 = nI 0 ∧ S.1 0 16 = nI 0 ∧ S.1 0 17 = nI 0 ∧ (∀ a, a < k → S.1 12 a = nI 0) → ih_Mw x w ih_shM A Q 9 0 0 72 [(0, .ref (w.2.2 0)), (1, .int (nI sn)), (2, .int (nI ii)), (3, .int (nI nn)), (4, .int (nI k))] [] S := by
          intro fu
          induction fu with
          | zero =>
            intro k hke S ⟨hM, hz1, hz2, hz3, hz4, hz5⟩
            have hk0 : k = 9 := by omega
            refine s_iload C 4 dX8_readLog_72 rfl ?_
            refine s_bipush (v := nI 9) C dX8_readLog_74 (by decide) ?_
            refine s_icmp_geN 93 C dX8_readLog_76 (by decide) (by omega) (by omega) (fun h76 => ?_) (fun h76 => ?_)
            · subst hk0
              exact hx_72 _ ⟨hM, hz1, hz2, hz3, hz4, hz5⟩
            · exfalso; omega
          | succ fu ih_72 =>
            intro k hke S ⟨hM, hz1, hz2, hz3, hz4, hz5⟩
            have hkl : k < 9 := by omega
            refine s_iload C 4 dX8_readLog_72 rfl ?_
            refine s_bipush (v := nI 9) C dX8_readLog_74 (by decide) ?_
            refine s_icmp_geN 93 C dX8_readLog_76 (by decide) (by omega) (by omega) (fun h76 => ?_) (fun h76 => ?_)
            · exfalso; omega
            · refine s_aload_n C 0 dX8_readLog_79 rfl ?_
              refine s_getR C 8 19 (hM.1 _ _ _ rfl) (by decide) rfl (by decide) rfl (fun _ h => List.mem_cons_of_mem _ (List.mem_append_right _ h)) (by decide) rfl (by decide +kernel) dX8_readLog_80 ?_
              refine s_iload C 4 dX8_readLog_83 rfl ?_
              refine s_iconst (v := nI 0) C dX8_readLog_85 (by decide) ?_
              refine s_iastore C 9 (k) rfl rfl (by omega) (by decide) (by decide) rfl dX8_readLog_86 ?_
              refine s_iinc (u := nI (k + 1)) (lv' := [(4, .int (nI (k + 1))), (0, .ref (w.2.2 0)), (1, .int (nI sn)), (2, .int (nI ii)), (3, .int (nI nn))]) C 4 dX8_readLog_87 rfl (ih_incN (by decide)) (by decide) rfl ?_
              refine s_goto C 72 dX8_readLog_90 (by decide) ?_
              refine s_perm [1, 2, 3, 4, 0] rfl ?_
              refine ih_72 (k + 1) (by omega) _ ⟨ih_RM_h hM rfl, hz1, hz2, hz3, hz4, fun a ha => ?_⟩
              by_cases he : a = k
              · subst he; exact ih_u2_s
              · exact (ih_u2_j he).trans (hz5 a (by omega))
        refine s_perm [1, 2, 3, 4, 0] rfl ?_
        exact loop_72 9 0 (by omega) _ ⟨ih_RM_h (ih_RM_h (ih_RM_h (ih_RM_h hM rfl) rfl) rfl) rfl, rfl, rfl, rfl, rfl, fun a ha => absurd ha (Nat.not_lt_zero a)⟩
      · simp only [ih_t0, lg_cmp_lt, lg_cmp_gt, lg_cmp_le, lg_cmp_ge, ih_lel, ih_ltl, ih_tl (n := ii + (3 * nn)) (by omega), ih_tl (n := ih_mn T sn) (by omega)] at h34
        refine s_aload_n C 0 dX8_readLog_37 rfl ?_
        refine s_iconst (v := nI 2) C dX8_readLog_38 (by decide) ?_
        refine s_callVi 1 C (c_X8_found _ w _ _) gX8_readLog_X8_found rfl (by decide +kernel) (by decide) (by decide) (by decide) rfl (by decide) rfl rfl rfl (Nat.le_of_ble_eq_true rfl) dX8_readLog_39 ?_
        rintro rf S2 ⟨hrf, rfl⟩
        refine m_w hM (fun S hM => ?_)
        rw [hQ]
        exact s_ireturn C hA dX8_readLog_42 (by rw [if_neg (by omega), if_neg (by omega)]; exact ⟨hrf, hM⟩)
  · simp only [ih_lei, ih_lti, ih_t0] at h6
    refine s_aload_n C 0 dX8_readLog_9 rfl ?_
    refine s_iconst (v := nI 1) C dX8_readLog_10 (by decide) ?_
    refine s_callVi 1 C (c_X8_found _ w _ _) gX8_readLog_X8_found rfl (by decide +kernel) (by decide) (by decide) (by decide) rfl (by decide) rfl rfl rfl (Nat.le_of_ble_eq_true rfl) dX8_readLog_11 ?_
    rintro rf S2 ⟨hrf, rfl⟩
    refine m_w hM (fun S hM => ?_)
    rw [hQ]
    exact s_ireturn C hA dX8_readLog_14 (by rw [if_pos (by omega)]; exact ⟨hrf, hM⟩)

theorem ih_RM_w {S : ih_Sg} {T : ih_TT} {k j : Nat} {v : Int32} (hM : ih_RM S T) : ih_RM (ih_sI S k j v) (ih_u2 T k j v) := by
  refine ⟨hM.1, fun a b h => ?_⟩
  show ih_u2 S.1 k j v a b = ih_u2 T k j v a b
  unfold ih_u2
  split
  · rfl
  · exact hM.2 a b h
def ih_lv (q : Int32 × Nat × Nat × Nat × (Nat → Nat)) (w : Nat) : Int32 := if w = 0 then q.1 else if w = 1 then nI q.2.2.1 else if w = 2 then nI q.2.2.2.1 else if w = 3 then nI q.2.1 else nI (q.2.2.2.2 (w - 10))
def sp_log (T : ih_TT) (s i n w : Int32) : Int32 × ih_TT :=
  if (0 ≤ s.toInt ∧ s.toInt ≤ 7) ∧ (1 ≤ n.toInt ∧ n.toInt ≤ 20) ∧ ((0 ≤ w.toInt ∧ w.toInt ≤ 3) ∨ (10 ≤ w.toInt ∧ w.toInt ≤ 18)) then
    if (T 1 (ih_n s)).toInt < 0 then ih_fe T 1
    else if 0 ≤ i.toInt ∧ i.toInt + 3 * ih_n n ≤ ih_mn T (ih_n s) then (ih_lv (ih_lg T (60 * ih_n s + ih_n i) (ih_n n)) (ih_n w), ih_u2 T 0 1 (nI 0))
    else ih_fe T 2
  else (-1000001, T)
/-- the sum of how often each of acts 0 to 5 is in the log -/
def ih_al (f : Nat → Nat) : Nat := f 0 + f 1 + f 2 + f 3 + f 4 + f 5
def ih_lc (T : ih_TT) (k : Nat) (v : Nat → Nat) : Nat → ih_TT
  | 0 => T
  | n + 1 => ih_u2 (ih_lc T k v n) 4 (7 * k + (n + 1)) (nI (v (n + 1)))
theorem ih_lc_o {T : ih_TT} {k : Nat} {v : Nat → Nat} : ∀ n, ih_lc T k v n 0 5 = T 0 5
  | 0 => rfl
  | n + 1 => ih_lc_o n
def sp_learn (T : ih_TT) (s i n p : Int32) : Int32 × ih_TT :=
  if (0 ≤ s.toInt ∧ s.toInt ≤ 7) ∧ (1 ≤ n.toInt ∧ n.toInt ≤ 20) ∧ (0 ≤ p.toInt ∧ p.toInt ≤ 1000) then
    if ih_ct T = 12 then (-1000003, T)
    else if (T 1 (ih_n s)).toInt < 0 then ih_fe T 1
    else if 0 ≤ i.toInt ∧ i.toInt + 3 * ih_n n ≤ ih_mn T (ih_n s) then
      if ih_al (ih_lg T (60 * ih_n s + ih_n i) (ih_n n)).2.2.2.2 = 0 then (-1000002, T)
      else (nI (ih_ct T), ih_u2 (ih_set1 (ih_u2 (ih_lc (ih_u2 T 0 1 (nI 0)) (ih_ct T) (fun a => (ih_lg T (60 * ih_n s + ih_n i) (ih_n n)).2.2.2.2 a * 1000 / ih_al (ih_lg T (60 * ih_n s + ih_n i) (ih_n n)).2.2.2.2) 5) 4 (7 * ih_ct T + 6) p) (ih_ct T)) 0 5 (nI (ih_ct T + 1)))
    else ih_fe T 2
  else (-1000001, T)
theorem ih_u2_back {T : ih_TT} {v : Int32} : ih_u2 (ih_u2 T 0 1 v) 0 1 (T 0 1) = T := by
  funext a b
  unfold ih_u2
  by_cases h : a = 0 ∧ b = 1
  · rw [if_pos h, h.1, h.2]
  · rw [if_neg h, if_neg h]
theorem ih_fe_neg (T : ih_TT) : (ih_fe T 1).1.toInt < 0 ∧ (ih_fe T 2).1.toInt < 0 := ⟨by show ((-1000010 : Int32) - nI 1).toInt < 0; decide, by show ((-1000010 : Int32) - nI 2).toInt < 0; decide⟩
set_option maxHeartbeats 4000000 in
set_option maxRecDepth 100000 in
theorem c_X8_log (l : Launch) (w : ih_Wd) (S : ih_Sg) (T : ih_TT) (hM : ih_RM S T) (hI : ih_Inv T) (s i n w_ : Int32) : ih_Ci l yX8_log wsX8_log 3 w ih_shM [.ref (w.2.2 0), .int s, .int i, .int n, .int w_] S (fun r S' => r = (sp_log T s i n w_).1 ∧ ih_RM S' (sp_log T s i n w_).2) := by
  refine ih_bodyi (ret := some .int) rfl rfl (Nat.le_of_ble_eq_true rfl) ?_
  intro x A hA C
  have C : ih_Ok x w A cX8_log 6 RX8 wsX8_log (ih_rm 3) (some .int) := C
  show ih_Mw x w ih_shM A (ih_Qi x w ih_shM A _) 6 0 0 0 [(0, .ref (w.2.2 0)), (1, .int s), (2, .int i), (3, .int n), (4, .int w_)] [] S
  refine s_aload_n C 0 dX8_log_0 rfl ?_
  refine s_iconst (v := nI 0) C dX8_log_1 (by decide) ?_
  refine s_putI (ty := .int) C 8 0 tyX8 tyX8_ok nmX8 (by decide) rfl (by decide) rfl (fun _ h => List.mem_cons_of_mem _ (List.mem_append_right _ h)) (by decide) rfl (by decide +kernel) rfl (by decide +kernel) rfl rfl dX8_log_2 ?_
  refine m_hide hM rfl (fun S hM => ?_)
  refine s_iload_n C 1 dX8_log_5 rfl ?_
  refine s_callSi 1 C (c_X8_isSheet _ w _ _) gX8_log_X8_isSheet rfl (by decide +kernel) (by decide) (by decide) rfl rfl (Nat.le_of_ble_eq_true rfl) dX8_log_6 ?_
  rintro rs6 S2 ⟨hrs6, rfl⟩
  refine s_if_eq C 52 dX8_log_9 (by decide) (fun h9 => ?_) (fun h9 => ?_)
  · replace h9 := ih_b0 hrs6 h9
    refine s_ldc (v := (-1000001)) C (by decide +kernel) dX8_log_52 ?_
    exact s_ireturn C hA dX8_log_54 (by rw [sp_log, if_neg (by omega)]; exact ⟨rfl, hM⟩)
  · replace h9 := ih_b1 hrs6 h9
    refine s_iload_n C 3 dX8_log_12 rfl ?_
    refine s_i2l C dX8_log_13 ?_
    refine s_lconst (v := lN 1) C dX8_log_14 rfl ?_
    refine s_ldc2 (v := lN 20) C (by decide +kernel) dX8_log_15 ?_
    refine s_callSi 3 C (c_X8_in _ w _ _ _ _ _) gX8_log_X8_in rfl (by decide +kernel) (by decide) (by decide) rfl rfl (Nat.le_of_ble_eq_true rfl) dX8_log_18 ?_
    rintro rb18 S2 ⟨hrb18, rfl⟩
    rw [ih_wide, ih_tl (by decide), ih_tl (by decide)] at hrb18
    refine s_if_eq C 52 dX8_log_21 (by decide) (fun h21 => ?_) (fun h21 => ?_)
    · replace h21 := ih_b0 hrb18 h21
      refine s_ldc (v := (-1000001)) C (by decide +kernel) dX8_log_52 ?_
      exact s_ireturn C hA dX8_log_54 (by rw [sp_log, if_neg (by omega)]; exact ⟨rfl, hM⟩)
    · replace h21 := ih_b1 hrb18 h21
      refine s_iload C 4 dX8_log_24 rfl ?_
      refine s_i2l C dX8_log_26 ?_
      refine s_lconst (v := lN 0) C dX8_log_27 rfl ?_
      refine s_ldc2 (v := lN 3) C (by decide +kernel) dX8_log_28 ?_
      refine s_callSi 3 C (c_X8_in _ w _ _ _ _ _) gX8_log_X8_in rfl (by decide +kernel) (by decide) (by decide) rfl rfl (Nat.le_of_ble_eq_true rfl) dX8_log_31 ?_
      rintro rb31 S2 ⟨hrb31, rfl⟩
      rw [ih_wide, ih_tl (by decide), ih_tl (by decide)] at hrb31
      refine s_if_ne C 55 dX8_log_34 (by decide) (fun h34 => ?_) (fun h34 => ?_)
      · replace h34 := ih_b1 hrb31 h34
        obtain ⟨sn, hsn, rfl, hsnt⟩ := ih_nat (a := s) h9.1
        have hsnb : sn < 8 := by omega
        obtain ⟨nn, hnn, rfl, hnnt⟩ := ih_nat (a := n) (by omega)
        obtain ⟨wn, hwn, rfl, hwnt⟩ := ih_nat (a := w_) (by omega)
        have hwnb : wn < 19 := by omega
        refine s_aload_n C 0 dX8_log_55 rfl ?_
        refine s_iload_n C 1 dX8_log_56 rfl ?_
        refine s_iload_n C 2 dX8_log_57 rfl ?_
        refine s_iload_n C 3 dX8_log_58 rfl ?_
        refine s_callVi 3 C (c_X8_readLog _ w _ T hM hI sn (by omega) _ nn (by omega)) gX8_log_X8_readLog rfl (by decide +kernel) (by decide) (by decide) (by decide) rfl (by decide) rfl rfl rfl (Nat.le_of_ble_eq_true rfl) dX8_log_59 ?_
        rintro rl S hrl
        refine s_istore (lv' := [(5, .int rl), (0, .ref (w.2.2 0)), (1, .int (nI sn)), (2, .int i), (3, .int (nI nn)), (4, .int (nI wn))]) C dX8_log_62 (by decide) rfl ?_
        rcases (show (T 1 sn).toInt < 0 ∨ (¬ (T 1 sn).toInt < 0 ∧ ¬ (0 ≤ i.toInt ∧ i.toInt + 3 * nn ≤ ih_mn T sn)) ∨ (¬ (T 1 sn).toInt < 0 ∧ (0 ≤ i.toInt ∧ i.toInt + 3 * nn ≤ ih_mn T sn)) by omega) with hla | ⟨hla, hpl⟩ | ⟨hla, hpl⟩
        · rw [if_pos hla] at hrl
          obtain ⟨hrl, hM⟩ := hrl
          have hrn := (ih_fe_neg T).1
          rw [← hrl] at hrn
          refine s_iload C 0 dX8_log_64 rfl ?_
          refine s_if_ge C 74 dX8_log_66 (by decide) (fun h66 => ?_) (fun h66 => ?_)
          · simp only [ih_lei, ih_t0] at h66; exfalso; omega
          · simp only [ih_lei, ih_lti, ih_t0] at h66
            refine s_iload C 0 dX8_log_69 rfl ?_
            refine s_goto C 135 dX8_log_71 (by decide) ?_
            exact s_ireturn C hA dX8_log_135 (by rw [sp_log, if_pos (show (0 ≤ (nI sn).toInt ∧ (nI sn).toInt ≤ 7) ∧ (1 ≤ (nI nn).toInt ∧ (nI nn).toInt ≤ 20) ∧ ((0 ≤ (nI wn).toInt ∧ (nI wn).toInt ≤ 3) ∨ (10 ≤ (nI wn).toInt ∧ (nI wn).toInt ≤ 18)) by omega), ih_n_nI hsn, ih_n_nI hnn, if_pos hla]; exact ⟨hrl, hM⟩)
        · rw [if_neg hla, if_neg hpl] at hrl
          obtain ⟨hrl, hM⟩ := hrl
          have hrn := (ih_fe_neg T).2
          rw [← hrl] at hrn
          refine s_iload C 0 dX8_log_64 rfl ?_
          refine s_if_ge C 74 dX8_log_66 (by decide) (fun h66 => ?_) (fun h66 => ?_)
          · simp only [ih_lei, ih_t0] at h66; exfalso; omega
          · simp only [ih_lei, ih_lti, ih_t0] at h66
            refine s_iload C 0 dX8_log_69 rfl ?_
            refine s_goto C 135 dX8_log_71 (by decide) ?_
            exact s_ireturn C hA dX8_log_135 (by rw [sp_log, if_pos (show (0 ≤ (nI sn).toInt ∧ (nI sn).toInt ≤ 7) ∧ (1 ≤ (nI nn).toInt ∧ (nI nn).toInt ≤ 20) ∧ ((0 ≤ (nI wn).toInt ∧ (nI wn).toInt ≤ 3) ∨ (10 ≤ (nI wn).toInt ∧ (nI wn).toInt ≤ 18)) by omega), ih_n_nI hsn, ih_n_nI hnn, if_neg hla, if_neg hpl]; exact ⟨hrl, hM⟩)
        · rw [if_neg hla, if_pos hpl] at hrl
          obtain ⟨rfl, hM, hq⟩ := hrl
          obtain ⟨ii, hii, rfl, hiit⟩ := ih_nat (a := i) hpl.1
          rw [ih_n_nI hii] at hq
          obtain ⟨hl1, hl2, hl3, hl4⟩ := ih_lg_le (T := T) (b := 60 * sn + ii) nn
          refine s_iload C 0 dX8_log_64 rfl ?_
          refine s_if_geN 74 C dX8_log_66 (by decide) (by omega) (fun h66 => ?_) (fun h66 => ?_)
          · refine s_iload C 5 dX8_log_74 rfl ?_
            refine s_if_neN 86 C dX8_log_76 (by decide) (by omega) (fun h76 => ?_) (fun h76 => ?_)
            · refine s_iload C 5 dX8_log_86 rfl ?_
              refine s_iconst (v := nI 1) C dX8_log_88 (by decide) ?_
              refine s_icmp_neN 99 C dX8_log_89 (by decide) (by omega) (by omega) (fun h89 => ?_) (fun h89 => ?_)
              · refine s_iload C 5 dX8_log_99 rfl ?_
                refine s_iconst (v := nI 2) C dX8_log_101 (by decide) ?_
                refine s_icmp_neN 112 C dX8_log_102 (by decide) (by omega) (by omega) (fun h102 => ?_) (fun h102 => ?_)
                · refine s_iload C 5 dX8_log_112 rfl ?_
                  refine s_iconst (v := nI 3) C dX8_log_114 (by decide) ?_
                  refine s_icmp_neN 125 C dX8_log_115 (by decide) (by omega) (by omega) (fun h115 => ?_) (fun h115 => ?_)
                  · refine s_aload_n C 1 dX8_log_125 rfl ?_
                    refine s_getR C 8 19 (hM.1 _ _ _ rfl) (by decide) rfl (by decide) rfl (fun _ h => List.mem_cons_of_mem _ (List.mem_append_right _ h)) (by decide) rfl (by decide +kernel) dX8_log_126 ?_
                    refine s_iload C 5 dX8_log_129 rfl ?_
                    refine s_bipush (v := nI 10) C dX8_log_131 (by decide) ?_
                    refine s_isubN C dX8_log_133 (by omega) ?_
                    refine s_iaload C 9 (wn - 10) rfl rfl (by omega) (by decide) (by decide) rfl dX8_log_134 ?_
                    refine s_toe (b := nI ((ih_lg T (60 * sn + ii) nn).2.2.2.2 (wn - 10))) (hq.2.2.2.2 ((wn - 10)) (by omega)) ?_
                    have hof_134 := hl4 ((wn - 10))
                    exact s_ireturn C hA dX8_log_135 (by rw [sp_log, if_pos (show (0 ≤ (nI sn).toInt ∧ (nI sn).toInt ≤ 7) ∧ (1 ≤ (nI nn).toInt ∧ (nI nn).toInt ≤ 20) ∧ ((0 ≤ (nI wn).toInt ∧ (nI wn).toInt ≤ 3) ∨ (10 ≤ (nI wn).toInt ∧ (nI wn).toInt ≤ 18)) by omega), ih_n_nI hsn, ih_n_nI hnn, if_neg hla, if_pos hpl, ih_n_nI hii, ih_n_nI hwn, ih_lv, if_neg (show ¬ wn = 0 by omega), if_neg (show ¬ wn = 1 by omega), if_neg (show ¬ wn = 2 by omega), if_neg (show ¬ wn = 3 by omega)]; exact ⟨rfl, hM⟩)
                  · refine s_aload_n C 1 dX8_log_118 rfl ?_
                    refine s_getI C 8 18 (by decide) rfl (by decide) rfl (fun _ h => List.mem_cons_of_mem _ (List.mem_append_right _ h)) (by decide) rfl (by decide +kernel) dX8_log_119 ?_
                    refine s_toe (b := nI ((ih_lg T (60 * sn + ii) nn).2.1)) hq.2.1 ?_
                    refine s_goto C 135 dX8_log_122 (by decide) ?_
                    exact s_ireturn C hA dX8_log_135 (by rw [sp_log, if_pos (show (0 ≤ (nI sn).toInt ∧ (nI sn).toInt ≤ 7) ∧ (1 ≤ (nI nn).toInt ∧ (nI nn).toInt ≤ 20) ∧ ((0 ≤ (nI wn).toInt ∧ (nI wn).toInt ≤ 3) ∨ (10 ≤ (nI wn).toInt ∧ (nI wn).toInt ≤ 18)) by omega), ih_n_nI hsn, ih_n_nI hnn, if_neg hla, if_pos hpl, ih_n_nI hii, ih_n_nI hwn, ih_lv, if_neg (show ¬ wn = 0 by omega), if_neg (show ¬ wn = 1 by omega), if_neg (show ¬ wn = 2 by omega), if_pos (show wn = 3 by omega)]; exact ⟨rfl, hM⟩)
                · refine s_aload_n C 1 dX8_log_105 rfl ?_
                  refine s_getI C 8 17 (by decide) rfl (by decide) rfl (fun _ h => List.mem_cons_of_mem _ (List.mem_append_right _ h)) (by decide) rfl (by decide +kernel) dX8_log_106 ?_
                  refine s_toe (b := nI ((ih_lg T (60 * sn + ii) nn).2.2.2.1)) hq.2.2.2.1 ?_
                  refine s_goto C 135 dX8_log_109 (by decide) ?_
                  exact s_ireturn C hA dX8_log_135 (by rw [sp_log, if_pos (show (0 ≤ (nI sn).toInt ∧ (nI sn).toInt ≤ 7) ∧ (1 ≤ (nI nn).toInt ∧ (nI nn).toInt ≤ 20) ∧ ((0 ≤ (nI wn).toInt ∧ (nI wn).toInt ≤ 3) ∨ (10 ≤ (nI wn).toInt ∧ (nI wn).toInt ≤ 18)) by omega), ih_n_nI hsn, ih_n_nI hnn, if_neg hla, if_pos hpl, ih_n_nI hii, ih_n_nI hwn, ih_lv, if_neg (show ¬ wn = 0 by omega), if_neg (show ¬ wn = 1 by omega), if_pos (show wn = 2 by omega)]; exact ⟨rfl, hM⟩)
              · refine s_aload_n C 1 dX8_log_92 rfl ?_
                refine s_getI C 8 16 (by decide) rfl (by decide) rfl (fun _ h => List.mem_cons_of_mem _ (List.mem_append_right _ h)) (by decide) rfl (by decide +kernel) dX8_log_93 ?_
                refine s_toe (b := nI ((ih_lg T (60 * sn + ii) nn).2.2.1)) hq.2.2.1 ?_
                refine s_goto C 135 dX8_log_96 (by decide) ?_
                exact s_ireturn C hA dX8_log_135 (by rw [sp_log, if_pos (show (0 ≤ (nI sn).toInt ∧ (nI sn).toInt ≤ 7) ∧ (1 ≤ (nI nn).toInt ∧ (nI nn).toInt ≤ 20) ∧ ((0 ≤ (nI wn).toInt ∧ (nI wn).toInt ≤ 3) ∨ (10 ≤ (nI wn).toInt ∧ (nI wn).toInt ≤ 18)) by omega), ih_n_nI hsn, ih_n_nI hnn, if_neg hla, if_pos hpl, ih_n_nI hii, ih_n_nI hwn, ih_lv, if_neg (show ¬ wn = 0 by omega), if_pos (show wn = 1 by omega)]; exact ⟨rfl, hM⟩)
            · refine s_aload_n C 1 dX8_log_79 rfl ?_
              refine s_getI C 8 15 (by decide) rfl (by decide) rfl (fun _ h => List.mem_cons_of_mem _ (List.mem_append_right _ h)) (by decide) rfl (by decide +kernel) dX8_log_80 ?_
              refine s_toe (b := (ih_lg T (60 * sn + ii) nn).1) hq.1 ?_
              refine s_goto C 135 dX8_log_83 (by decide) ?_
              exact s_ireturn C hA dX8_log_135 (by rw [sp_log, if_pos (show (0 ≤ (nI sn).toInt ∧ (nI sn).toInt ≤ 7) ∧ (1 ≤ (nI nn).toInt ∧ (nI nn).toInt ≤ 20) ∧ ((0 ≤ (nI wn).toInt ∧ (nI wn).toInt ≤ 3) ∨ (10 ≤ (nI wn).toInt ∧ (nI wn).toInt ≤ 18)) by omega), ih_n_nI hsn, ih_n_nI hnn, if_neg hla, if_pos hpl, ih_n_nI hii, ih_n_nI hwn, ih_lv, if_pos (show wn = 0 by omega)]; exact ⟨rfl, hM⟩)
          · exact absurd h66 (by decide)
      · replace h34 := ih_b0 hrb31 h34
        refine s_iload C 4 dX8_log_37 rfl ?_
        refine s_i2l C dX8_log_39 ?_
        refine s_ldc2 (v := lN 10) C (by decide +kernel) dX8_log_40 ?_
        refine s_ldc2 (v := lN 18) C (by decide +kernel) dX8_log_43 ?_
        refine s_callSi 3 C (c_X8_in _ w _ _ _ _ _) gX8_log_X8_in rfl (by decide +kernel) (by decide) (by decide) rfl rfl (Nat.le_of_ble_eq_true rfl) dX8_log_46 ?_
        rintro rb46 S2 ⟨hrb46, rfl⟩
        rw [ih_wide, ih_tl (by decide), ih_tl (by decide)] at hrb46
        refine s_if_ne C 55 dX8_log_49 (by decide) (fun h49 => ?_) (fun h49 => ?_)
        · replace h49 := ih_b1 hrb46 h49
          obtain ⟨sn, hsn, rfl, hsnt⟩ := ih_nat (a := s) h9.1
          have hsnb : sn < 8 := by omega
          obtain ⟨nn, hnn, rfl, hnnt⟩ := ih_nat (a := n) (by omega)
          obtain ⟨wn, hwn, rfl, hwnt⟩ := ih_nat (a := w_) (by omega)
          have hwnb : wn < 19 := by omega
          refine s_aload_n C 0 dX8_log_55 rfl ?_
          refine s_iload_n C 1 dX8_log_56 rfl ?_
          refine s_iload_n C 2 dX8_log_57 rfl ?_
          refine s_iload_n C 3 dX8_log_58 rfl ?_
          refine s_callVi 3 C (c_X8_readLog _ w _ T hM hI sn (by omega) _ nn (by omega)) gX8_log_X8_readLog rfl (by decide +kernel) (by decide) (by decide) (by decide) rfl (by decide) rfl rfl rfl (Nat.le_of_ble_eq_true rfl) dX8_log_59 ?_
          rintro rl S hrl
          refine s_istore (lv' := [(5, .int rl), (0, .ref (w.2.2 0)), (1, .int (nI sn)), (2, .int i), (3, .int (nI nn)), (4, .int (nI wn))]) C dX8_log_62 (by decide) rfl ?_
          rcases (show (T 1 sn).toInt < 0 ∨ (¬ (T 1 sn).toInt < 0 ∧ ¬ (0 ≤ i.toInt ∧ i.toInt + 3 * nn ≤ ih_mn T sn)) ∨ (¬ (T 1 sn).toInt < 0 ∧ (0 ≤ i.toInt ∧ i.toInt + 3 * nn ≤ ih_mn T sn)) by omega) with hla | ⟨hla, hpl⟩ | ⟨hla, hpl⟩
          · rw [if_pos hla] at hrl
            obtain ⟨hrl, hM⟩ := hrl
            have hrn := (ih_fe_neg T).1
            rw [← hrl] at hrn
            refine s_iload C 0 dX8_log_64 rfl ?_
            refine s_if_ge C 74 dX8_log_66 (by decide) (fun h66 => ?_) (fun h66 => ?_)
            · simp only [ih_lei, ih_t0] at h66; exfalso; omega
            · simp only [ih_lei, ih_lti, ih_t0] at h66
              refine s_iload C 0 dX8_log_69 rfl ?_
              refine s_goto C 135 dX8_log_71 (by decide) ?_
              exact s_ireturn C hA dX8_log_135 (by rw [sp_log, if_pos (show (0 ≤ (nI sn).toInt ∧ (nI sn).toInt ≤ 7) ∧ (1 ≤ (nI nn).toInt ∧ (nI nn).toInt ≤ 20) ∧ ((0 ≤ (nI wn).toInt ∧ (nI wn).toInt ≤ 3) ∨ (10 ≤ (nI wn).toInt ∧ (nI wn).toInt ≤ 18)) by omega), ih_n_nI hsn, ih_n_nI hnn, if_pos hla]; exact ⟨hrl, hM⟩)
          · rw [if_neg hla, if_neg hpl] at hrl
            obtain ⟨hrl, hM⟩ := hrl
            have hrn := (ih_fe_neg T).2
            rw [← hrl] at hrn
            refine s_iload C 0 dX8_log_64 rfl ?_
            refine s_if_ge C 74 dX8_log_66 (by decide) (fun h66 => ?_) (fun h66 => ?_)
            · simp only [ih_lei, ih_t0] at h66; exfalso; omega
            · simp only [ih_lei, ih_lti, ih_t0] at h66
              refine s_iload C 0 dX8_log_69 rfl ?_
              refine s_goto C 135 dX8_log_71 (by decide) ?_
              exact s_ireturn C hA dX8_log_135 (by rw [sp_log, if_pos (show (0 ≤ (nI sn).toInt ∧ (nI sn).toInt ≤ 7) ∧ (1 ≤ (nI nn).toInt ∧ (nI nn).toInt ≤ 20) ∧ ((0 ≤ (nI wn).toInt ∧ (nI wn).toInt ≤ 3) ∨ (10 ≤ (nI wn).toInt ∧ (nI wn).toInt ≤ 18)) by omega), ih_n_nI hsn, ih_n_nI hnn, if_neg hla, if_neg hpl]; exact ⟨hrl, hM⟩)
          · rw [if_neg hla, if_pos hpl] at hrl
            obtain ⟨rfl, hM, hq⟩ := hrl
            obtain ⟨ii, hii, rfl, hiit⟩ := ih_nat (a := i) hpl.1
            rw [ih_n_nI hii] at hq
            obtain ⟨hl1, hl2, hl3, hl4⟩ := ih_lg_le (T := T) (b := 60 * sn + ii) nn
            refine s_iload C 0 dX8_log_64 rfl ?_
            refine s_if_geN 74 C dX8_log_66 (by decide) (by omega) (fun h66 => ?_) (fun h66 => ?_)
            · refine s_iload C 5 dX8_log_74 rfl ?_
              refine s_if_neN 86 C dX8_log_76 (by decide) (by omega) (fun h76 => ?_) (fun h76 => ?_)
              · refine s_iload C 5 dX8_log_86 rfl ?_
                refine s_iconst (v := nI 1) C dX8_log_88 (by decide) ?_
                refine s_icmp_neN 99 C dX8_log_89 (by decide) (by omega) (by omega) (fun h89 => ?_) (fun h89 => ?_)
                · refine s_iload C 5 dX8_log_99 rfl ?_
                  refine s_iconst (v := nI 2) C dX8_log_101 (by decide) ?_
                  refine s_icmp_neN 112 C dX8_log_102 (by decide) (by omega) (by omega) (fun h102 => ?_) (fun h102 => ?_)
                  · refine s_iload C 5 dX8_log_112 rfl ?_
                    refine s_iconst (v := nI 3) C dX8_log_114 (by decide) ?_
                    refine s_icmp_neN 125 C dX8_log_115 (by decide) (by omega) (by omega) (fun h115 => ?_) (fun h115 => ?_)
                    · refine s_aload_n C 1 dX8_log_125 rfl ?_
                      refine s_getR C 8 19 (hM.1 _ _ _ rfl) (by decide) rfl (by decide) rfl (fun _ h => List.mem_cons_of_mem _ (List.mem_append_right _ h)) (by decide) rfl (by decide +kernel) dX8_log_126 ?_
                      refine s_iload C 5 dX8_log_129 rfl ?_
                      refine s_bipush (v := nI 10) C dX8_log_131 (by decide) ?_
                      refine s_isubN C dX8_log_133 (by omega) ?_
                      refine s_iaload C 9 (wn - 10) rfl rfl (by omega) (by decide) (by decide) rfl dX8_log_134 ?_
                      refine s_toe (b := nI ((ih_lg T (60 * sn + ii) nn).2.2.2.2 (wn - 10))) (hq.2.2.2.2 ((wn - 10)) (by omega)) ?_
                      have hof_134 := hl4 ((wn - 10))
                      exact s_ireturn C hA dX8_log_135 (by rw [sp_log, if_pos (show (0 ≤ (nI sn).toInt ∧ (nI sn).toInt ≤ 7) ∧ (1 ≤ (nI nn).toInt ∧ (nI nn).toInt ≤ 20) ∧ ((0 ≤ (nI wn).toInt ∧ (nI wn).toInt ≤ 3) ∨ (10 ≤ (nI wn).toInt ∧ (nI wn).toInt ≤ 18)) by omega), ih_n_nI hsn, ih_n_nI hnn, if_neg hla, if_pos hpl, ih_n_nI hii, ih_n_nI hwn, ih_lv, if_neg (show ¬ wn = 0 by omega), if_neg (show ¬ wn = 1 by omega), if_neg (show ¬ wn = 2 by omega), if_neg (show ¬ wn = 3 by omega)]; exact ⟨rfl, hM⟩)
                    · refine s_aload_n C 1 dX8_log_118 rfl ?_
                      refine s_getI C 8 18 (by decide) rfl (by decide) rfl (fun _ h => List.mem_cons_of_mem _ (List.mem_append_right _ h)) (by decide) rfl (by decide +kernel) dX8_log_119 ?_
                      refine s_toe (b := nI ((ih_lg T (60 * sn + ii) nn).2.1)) hq.2.1 ?_
                      refine s_goto C 135 dX8_log_122 (by decide) ?_
                      exact s_ireturn C hA dX8_log_135 (by rw [sp_log, if_pos (show (0 ≤ (nI sn).toInt ∧ (nI sn).toInt ≤ 7) ∧ (1 ≤ (nI nn).toInt ∧ (nI nn).toInt ≤ 20) ∧ ((0 ≤ (nI wn).toInt ∧ (nI wn).toInt ≤ 3) ∨ (10 ≤ (nI wn).toInt ∧ (nI wn).toInt ≤ 18)) by omega), ih_n_nI hsn, ih_n_nI hnn, if_neg hla, if_pos hpl, ih_n_nI hii, ih_n_nI hwn, ih_lv, if_neg (show ¬ wn = 0 by omega), if_neg (show ¬ wn = 1 by omega), if_neg (show ¬ wn = 2 by omega), if_pos (show wn = 3 by omega)]; exact ⟨rfl, hM⟩)
                  · refine s_aload_n C 1 dX8_log_105 rfl ?_
                    refine s_getI C 8 17 (by decide) rfl (by decide) rfl (fun _ h => List.mem_cons_of_mem _ (List.mem_append_right _ h)) (by decide) rfl (by decide +kernel) dX8_log_106 ?_
                    refine s_toe (b := nI ((ih_lg T (60 * sn + ii) nn).2.2.2.1)) hq.2.2.2.1 ?_
                    refine s_goto C 135 dX8_log_109 (by decide) ?_
                    exact s_ireturn C hA dX8_log_135 (by rw [sp_log, if_pos (show (0 ≤ (nI sn).toInt ∧ (nI sn).toInt ≤ 7) ∧ (1 ≤ (nI nn).toInt ∧ (nI nn).toInt ≤ 20) ∧ ((0 ≤ (nI wn).toInt ∧ (nI wn).toInt ≤ 3) ∨ (10 ≤ (nI wn).toInt ∧ (nI wn).toInt ≤ 18)) by omega), ih_n_nI hsn, ih_n_nI hnn, if_neg hla, if_pos hpl, ih_n_nI hii, ih_n_nI hwn, ih_lv, if_neg (show ¬ wn = 0 by omega), if_neg (show ¬ wn = 1 by omega), if_pos (show wn = 2 by omega)]; exact ⟨rfl, hM⟩)
                · refine s_aload_n C 1 dX8_log_92 rfl ?_
                  refine s_getI C 8 16 (by decide) rfl (by decide) rfl (fun _ h => List.mem_cons_of_mem _ (List.mem_append_right _ h)) (by decide) rfl (by decide +kernel) dX8_log_93 ?_
                  refine s_toe (b := nI ((ih_lg T (60 * sn + ii) nn).2.2.1)) hq.2.2.1 ?_
                  refine s_goto C 135 dX8_log_96 (by decide) ?_
                  exact s_ireturn C hA dX8_log_135 (by rw [sp_log, if_pos (show (0 ≤ (nI sn).toInt ∧ (nI sn).toInt ≤ 7) ∧ (1 ≤ (nI nn).toInt ∧ (nI nn).toInt ≤ 20) ∧ ((0 ≤ (nI wn).toInt ∧ (nI wn).toInt ≤ 3) ∨ (10 ≤ (nI wn).toInt ∧ (nI wn).toInt ≤ 18)) by omega), ih_n_nI hsn, ih_n_nI hnn, if_neg hla, if_pos hpl, ih_n_nI hii, ih_n_nI hwn, ih_lv, if_neg (show ¬ wn = 0 by omega), if_pos (show wn = 1 by omega)]; exact ⟨rfl, hM⟩)
              · refine s_aload_n C 1 dX8_log_79 rfl ?_
                refine s_getI C 8 15 (by decide) rfl (by decide) rfl (fun _ h => List.mem_cons_of_mem _ (List.mem_append_right _ h)) (by decide) rfl (by decide +kernel) dX8_log_80 ?_
                refine s_toe (b := (ih_lg T (60 * sn + ii) nn).1) hq.1 ?_
                refine s_goto C 135 dX8_log_83 (by decide) ?_
                exact s_ireturn C hA dX8_log_135 (by rw [sp_log, if_pos (show (0 ≤ (nI sn).toInt ∧ (nI sn).toInt ≤ 7) ∧ (1 ≤ (nI nn).toInt ∧ (nI nn).toInt ≤ 20) ∧ ((0 ≤ (nI wn).toInt ∧ (nI wn).toInt ≤ 3) ∨ (10 ≤ (nI wn).toInt ∧ (nI wn).toInt ≤ 18)) by omega), ih_n_nI hsn, ih_n_nI hnn, if_neg hla, if_pos hpl, ih_n_nI hii, ih_n_nI hwn, ih_lv, if_pos (show wn = 0 by omega)]; exact ⟨rfl, hM⟩)
            · exact absurd h66 (by decide)
        · replace h49 := ih_b0 hrb46 h49
          refine s_ldc (v := (-1000001)) C (by decide +kernel) dX8_log_52 ?_
          exact s_ireturn C hA dX8_log_54 (by rw [sp_log, if_neg (by omega)]; exact ⟨rfl, hM⟩)

set_option maxHeartbeats 4000000 in
set_option maxRecDepth 100000 in
theorem c_X8_learn (l : Launch) (w : ih_Wd) (S : ih_Sg) (T : ih_TT) (hM : ih_RM S T) (hI : ih_Inv T) (s i n p_ : Int32) : ih_Ci l yX8_learn wsX8_learn 3 w ih_shM [.ref (w.2.2 0), .int s, .int i, .int n, .int p_] S (fun r S' => r = (sp_learn T s i n p_).1 ∧ ih_RM S' (sp_learn T s i n p_).2) := by
  refine ih_bodyi (ret := some .int) rfl rfl (Nat.le_of_ble_eq_true rfl) ?_
  intro x A hA C
  have C : ih_Ok x w A cX8_learn 9 RX8 wsX8_learn (ih_rm 3) (some .int) := C
  show ih_Mw x w ih_shM A (ih_Qi x w ih_shM A _) 9 0 0 0 [(0, .ref (w.2.2 0)), (1, .int s), (2, .int i), (3, .int n), (4, .int p_)] [] S
  obtain ⟨Q, hQ⟩ : ∃ Q, Q = ih_Qi x w ih_shM A (fun r S' => r = (sp_learn T s i n p_).1 ∧ ih_RM S' (sp_learn T s i n p_).2) := ⟨_, rfl⟩
  rw [show ih_Qi x w ih_shM A _ = Q from hQ.symm]
  have hct : ih_ct T ≤ 12 := hI.2.1.2.1
  have hC := hI.2.1.2.2
  refine s_aload_n C 0 dX8_learn_0 rfl ?_
  refine s_iconst (v := nI 0) C dX8_learn_1 (by decide) ?_
  refine s_putI (ty := .int) C 8 0 tyX8 tyX8_ok nmX8 (by decide) rfl (by decide) rfl (fun _ h => List.mem_cons_of_mem _ (List.mem_append_right _ h)) (by decide) rfl (by decide +kernel) rfl (by decide +kernel) rfl rfl dX8_learn_2 ?_
  refine m_hide hM rfl (fun S hM => ?_)
  refine s_iload_n C 1 dX8_learn_5 rfl ?_
  refine s_callSi 1 C (c_X8_isSheet _ w _ _) gX8_learn_X8_isSheet rfl (by decide +kernel) (by decide) (by decide) rfl rfl (Nat.le_of_ble_eq_true rfl) dX8_learn_6 ?_
  rintro rs6 S2 ⟨hrs6, rfl⟩
  refine s_if_eq C 32 dX8_learn_9 (by decide) (fun h9 => ?_) (fun h9 => ?_)
  · replace h9 := ih_b0 hrs6 h9
    refine s_ldc (v := (-1000001)) C (by decide +kernel) dX8_learn_32 ?_
    rw [hQ]
    exact s_ireturn C hA dX8_learn_34 (by rw [sp_learn, if_neg (by omega)]; exact ⟨rfl, hM⟩)
  · replace h9 := ih_b1 hrs6 h9
    refine s_iload_n C 3 dX8_learn_12 rfl ?_
    refine s_i2l C dX8_learn_13 ?_
    refine s_lconst (v := lN 1) C dX8_learn_14 rfl ?_
    refine s_ldc2 (v := lN 20) C (by decide +kernel) dX8_learn_15 ?_
    refine s_callSi 3 C (c_X8_in _ w _ _ _ _ _) gX8_learn_X8_in rfl (by decide +kernel) (by decide) (by decide) rfl rfl (Nat.le_of_ble_eq_true rfl) dX8_learn_18 ?_
    rintro rb18 S2 ⟨hrb18, rfl⟩
    rw [ih_wide, ih_tl (by decide), ih_tl (by decide)] at hrb18
    refine s_if_eq C 32 dX8_learn_21 (by decide) (fun h21 => ?_) (fun h21 => ?_)
    · replace h21 := ih_b0 hrb18 h21
      refine s_ldc (v := (-1000001)) C (by decide +kernel) dX8_learn_32 ?_
      rw [hQ]
      exact s_ireturn C hA dX8_learn_34 (by rw [sp_learn, if_neg (by omega)]; exact ⟨rfl, hM⟩)
    · replace h21 := ih_b1 hrb18 h21
      refine s_iload C 4 dX8_learn_24 rfl ?_
      refine s_callSi 1 C (c_X8_isChance _ w _ _) gX8_learn_X8_isChance rfl (by decide +kernel) (by decide) (by decide) rfl rfl (Nat.le_of_ble_eq_true rfl) dX8_learn_26 ?_
      rintro rc26 S2 ⟨hrc26, rfl⟩
      refine s_if_ne C 35 dX8_learn_29 (by decide) (fun h29 => ?_) (fun h29 => ?_)
      · replace h29 := ih_b1 hrc26 h29
        obtain ⟨sn, hsn, rfl, hsnt⟩ := ih_nat (a := s) h9.1
        have hsnb : sn < 8 := by omega
        obtain ⟨nn, hnn, rfl, hnnt⟩ := ih_nat (a := n) (by omega)
        refine s_aload_n C 0 dX8_learn_35 rfl ?_
        refine s_getI C 8 5 (by decide) rfl (by decide) rfl (fun _ h => List.mem_cons_of_mem _ (List.mem_append_right _ h)) (by decide) rfl (by decide +kernel) dX8_learn_36 ?_
        refine s_toe (b := T 0 5) (hM.2 _ _ rfl) ?_
        refine s_toe (b := nI (ih_ct T)) hI.2.1.1 ?_
        refine s_bipush (v := nI 12) C dX8_learn_39 (by decide) ?_
        refine s_icmp_neN 47 C dX8_learn_41 (by decide) (by omega) (by omega) (fun h41 => ?_) (fun h41 => ?_)
        · refine s_aload_n C 0 dX8_learn_47 rfl ?_
          refine s_getI C 8 1 (by decide) rfl (by decide) rfl (fun _ h => List.mem_cons_of_mem _ (List.mem_append_right _ h)) (by decide) rfl (by decide +kernel) dX8_learn_48 ?_
          refine s_toe (b := T 0 1) (hM.2 _ _ rfl) ?_
          refine s_istore (lv' := [(5, .int (T 0 1)), (0, .ref (w.2.2 0)), (1, .int (nI sn)), (2, .int i), (3, .int (nI nn)), (4, .int p_)]) C dX8_learn_51 (by decide) rfl ?_
          refine s_aload_n C 1 dX8_learn_53 rfl ?_
          refine s_iload_n C 2 dX8_learn_54 rfl ?_
          refine s_iload_n C 3 dX8_learn_55 rfl ?_
          refine s_iload_n C 4 dX8_learn_56 rfl ?_
          refine s_callVi 3 C (c_X8_readLog _ w _ T hM hI sn (by omega) _ nn (by omega)) gX8_learn_X8_readLog rfl (by decide +kernel) (by decide) (by decide) (by decide) rfl (by decide) rfl rfl rfl (Nat.le_of_ble_eq_true rfl) dX8_learn_57 ?_
          rintro rl S hrl
          refine s_istore (lv' := [(6, .int rl), (5, .int (T 0 1)), (0, .ref (w.2.2 0)), (1, .int (nI sn)), (2, .int i), (3, .int (nI nn)), (4, .int p_)]) C dX8_learn_60 (by decide) rfl ?_
          rcases (show (T 1 sn).toInt < 0 ∨ (¬ (T 1 sn).toInt < 0 ∧ ¬ (0 ≤ i.toInt ∧ i.toInt + 3 * nn ≤ ih_mn T sn)) ∨ (¬ (T 1 sn).toInt < 0 ∧ (0 ≤ i.toInt ∧ i.toInt + 3 * nn ≤ ih_mn T sn)) by omega) with hla | ⟨hla, hpl⟩ | ⟨hla, hpl⟩
          · rw [if_pos hla] at hrl
            obtain ⟨hrl, hM⟩ := hrl
            have hrn := (ih_fe_neg T).1
            rw [← hrl] at hrn
            refine s_iload C 0 dX8_learn_62 rfl ?_
            refine s_if_ge C 70 dX8_learn_64 (by decide) (fun h64 => ?_) (fun h64 => ?_)
            · simp only [ih_lei, ih_t0] at h64; exfalso; omega
            · simp only [ih_lei, ih_lti, ih_t0] at h64
              refine s_iload C 0 dX8_learn_67 rfl ?_
              rw [hQ]
              exact s_ireturn C hA dX8_learn_69 (by rw [sp_learn, if_pos (show (0 ≤ (nI sn).toInt ∧ (nI sn).toInt ≤ 7) ∧ (1 ≤ (nI nn).toInt ∧ (nI nn).toInt ≤ 20) ∧ (0 ≤ p_.toInt ∧ p_.toInt ≤ 1000) by omega), ih_n_nI hsn, ih_n_nI hnn, if_neg (show ¬ ih_ct T = 12 by omega), if_pos hla]; exact ⟨hrl, hM⟩)
          · rw [if_neg hla, if_neg hpl] at hrl
            obtain ⟨hrl, hM⟩ := hrl
            have hrn := (ih_fe_neg T).2
            rw [← hrl] at hrn
            refine s_iload C 0 dX8_learn_62 rfl ?_
            refine s_if_ge C 70 dX8_learn_64 (by decide) (fun h64 => ?_) (fun h64 => ?_)
            · simp only [ih_lei, ih_t0] at h64; exfalso; omega
            · simp only [ih_lei, ih_lti, ih_t0] at h64
              refine s_iload C 0 dX8_learn_67 rfl ?_
              rw [hQ]
              exact s_ireturn C hA dX8_learn_69 (by rw [sp_learn, if_pos (show (0 ≤ (nI sn).toInt ∧ (nI sn).toInt ≤ 7) ∧ (1 ≤ (nI nn).toInt ∧ (nI nn).toInt ≤ 20) ∧ (0 ≤ p_.toInt ∧ p_.toInt ≤ 1000) by omega), ih_n_nI hsn, ih_n_nI hnn, if_neg (show ¬ ih_ct T = 12 by omega), if_neg hla, if_neg hpl]; exact ⟨hrl, hM⟩)
          · rw [if_neg hla, if_pos hpl] at hrl
            obtain ⟨rfl, hM, hq⟩ := hrl
            obtain ⟨ii, hii, rfl, hiit⟩ := ih_nat (a := i) hpl.1
            rw [ih_n_nI hii] at hq
            obtain ⟨hl1, hl2, hl3, hl4⟩ := ih_lg_le (T := T) (b := 60 * sn + ii) nn
            refine s_iload C 0 dX8_learn_62 rfl ?_
            refine s_if_geN 70 C dX8_learn_64 (by decide) (by omega) (fun h64 => ?_) (fun h64 => ?_)
            · refine s_aload_n C 2 dX8_learn_70 rfl ?_
              refine s_getR C 8 19 (hM.1 _ _ _ rfl) (by decide) rfl (by decide) rfl (fun _ h => List.mem_cons_of_mem _ (List.mem_append_right _ h)) (by decide) rfl (by decide +kernel) dX8_learn_71 ?_
              refine s_iconst (v := nI 0) C dX8_learn_74 (by decide) ?_
              refine s_iaload C 9 (0) rfl rfl (by decide) (by decide) (by decide) rfl dX8_learn_75 ?_
              refine s_toe (b := nI ((ih_lg T (60 * sn + ii) nn).2.2.2.2 0)) (hq.2.2.2.2 (0) (by omega)) ?_
              have hof_75 := hl4 (0)
              refine s_aload_n C 2 dX8_learn_76 rfl ?_
              refine s_getR C 8 19 (hM.1 _ _ _ rfl) (by decide) rfl (by decide) rfl (fun _ h => List.mem_cons_of_mem _ (List.mem_append_right _ h)) (by decide) rfl (by decide +kernel) dX8_learn_77 ?_
              refine s_iconst (v := nI 1) C dX8_learn_80 (by decide) ?_
              refine s_iaload C 9 (1) rfl rfl (by decide) (by decide) (by decide) rfl dX8_learn_81 ?_
              refine s_toe (b := nI ((ih_lg T (60 * sn + ii) nn).2.2.2.2 1)) (hq.2.2.2.2 (1) (by omega)) ?_
              have hof_81 := hl4 (1)
              refine s_iaddN C dX8_learn_82 ?_
              refine s_aload_n C 2 dX8_learn_83 rfl ?_
              refine s_getR C 8 19 (hM.1 _ _ _ rfl) (by decide) rfl (by decide) rfl (fun _ h => List.mem_cons_of_mem _ (List.mem_append_right _ h)) (by decide) rfl (by decide +kernel) dX8_learn_84 ?_
              refine s_iconst (v := nI 2) C dX8_learn_87 (by decide) ?_
              refine s_iaload C 9 (2) rfl rfl (by decide) (by decide) (by decide) rfl dX8_learn_88 ?_
              refine s_toe (b := nI ((ih_lg T (60 * sn + ii) nn).2.2.2.2 2)) (hq.2.2.2.2 (2) (by omega)) ?_
              have hof_88 := hl4 (2)
              refine s_iaddN C dX8_learn_89 ?_
              refine s_aload_n C 2 dX8_learn_90 rfl ?_
              refine s_getR C 8 19 (hM.1 _ _ _ rfl) (by decide) rfl (by decide) rfl (fun _ h => List.mem_cons_of_mem _ (List.mem_append_right _ h)) (by decide) rfl (by decide +kernel) dX8_learn_91 ?_
              refine s_iconst (v := nI 3) C dX8_learn_94 (by decide) ?_
              refine s_iaload C 9 (3) rfl rfl (by decide) (by decide) (by decide) rfl dX8_learn_95 ?_
              refine s_toe (b := nI ((ih_lg T (60 * sn + ii) nn).2.2.2.2 3)) (hq.2.2.2.2 (3) (by omega)) ?_
              have hof_95 := hl4 (3)
              refine s_iaddN C dX8_learn_96 ?_
              refine s_aload_n C 2 dX8_learn_97 rfl ?_
              refine s_getR C 8 19 (hM.1 _ _ _ rfl) (by decide) rfl (by decide) rfl (fun _ h => List.mem_cons_of_mem _ (List.mem_append_right _ h)) (by decide) rfl (by decide +kernel) dX8_learn_98 ?_
              refine s_iconst (v := nI 4) C dX8_learn_101 (by decide) ?_
              refine s_iaload C 9 (4) rfl rfl (by decide) (by decide) (by decide) rfl dX8_learn_102 ?_
              refine s_toe (b := nI ((ih_lg T (60 * sn + ii) nn).2.2.2.2 4)) (hq.2.2.2.2 (4) (by omega)) ?_
              have hof_102 := hl4 (4)
              refine s_iaddN C dX8_learn_103 ?_
              refine s_aload_n C 2 dX8_learn_104 rfl ?_
              refine s_getR C 8 19 (hM.1 _ _ _ rfl) (by decide) rfl (by decide) rfl (fun _ h => List.mem_cons_of_mem _ (List.mem_append_right _ h)) (by decide) rfl (by decide +kernel) dX8_learn_105 ?_
              refine s_iconst (v := nI 5) C dX8_learn_108 (by decide) ?_
              refine s_iaload C 9 (5) rfl rfl (by decide) (by decide) (by decide) rfl dX8_learn_109 ?_
              refine s_toe (b := nI ((ih_lg T (60 * sn + ii) nn).2.2.2.2 5)) (hq.2.2.2.2 (5) (by omega)) ?_
              have hof_109 := hl4 (5)
              refine s_iaddN C dX8_learn_110 ?_
              refine s_toe (b := nI (ih_al (ih_lg T (60 * sn + ii) nn).2.2.2.2)) rfl ?_
              have hal : ih_al (ih_lg T (60 * sn + ii) nn).2.2.2.2 ≤ 120 := by unfold ih_al; omega
              refine s_istore (lv' := [(7, .int (nI (ih_al (ih_lg T (60 * sn + ii) nn).2.2.2.2))), (6, .int (nI 0)), (5, .int (T 0 1)), (0, .ref (w.2.2 0)), (1, .int (nI sn)), (2, .int (nI ii)), (3, .int (nI nn)), (4, .int p_)]) C dX8_learn_111 (by decide) rfl ?_
              refine s_iload C 0 dX8_learn_113 rfl ?_
              refine s_if_neN 127 C dX8_learn_115 (by decide) (by omega) (fun h115 => ?_) (fun h115 => ?_)
              · refine s_iconst (v := nI 1) C dX8_learn_127 (by decide) ?_
                refine s_istore (lv' := [(8, .int (nI 1)), (7, .int (nI (ih_al (ih_lg T (60 * sn + ii) nn).2.2.2.2))), (6, .int (nI 0)), (5, .int (T 0 1)), (0, .ref (w.2.2 0)), (1, .int (nI sn)), (2, .int (nI ii)), (3, .int (nI nn)), (4, .int p_)]) C dX8_learn_128 (by decide) rfl ?_
                have hx_130 : ∀ S, ih_RM S (ih_lc (ih_u2 T 0 1 (nI 0)) (ih_ct T) (fun a => (ih_lg T (60 * sn + ii) nn).2.2.2.2 a * 1000 / ih_al (ih_lg T (60 * sn + ii) nn).2.2.2.2) (5)) ∧ ih_LS S.1 (ih_lg T (60 * sn + ii) nn) → ih_Mw x w ih_shM A Q 9 0 0 172 [(0, .ref (w.2.2 0)), (4, .int p_), (7, .int (nI (ih_al (ih_lg T (60 * sn + ii) nn).2.2.2.2))), (8, .int (nI (5 + 1)))] [] S := by
                  intro S ⟨hM, hq⟩
                  refine s_aload_n C 0 dX8_learn_172 rfl ?_
                  refine s_getR C 8 6 (hM.1 _ _ _ rfl) (by decide) rfl (by decide) rfl (fun _ h => List.mem_cons_of_mem _ (List.mem_append_right _ h)) (by decide) rfl (by decide +kernel) dX8_learn_173 ?_
                  refine s_bipush (v := nI 7) C dX8_learn_176 (by decide) ?_
                  refine s_aload_n C 0 dX8_learn_178 rfl ?_
                  refine s_getI C 8 5 (by decide) rfl (by decide) rfl (fun _ h => List.mem_cons_of_mem _ (List.mem_append_right _ h)) (by decide) rfl (by decide +kernel) dX8_learn_179 ?_
                  refine s_toe (b := nI (ih_ct T)) ((hM.2 _ _ rfl).trans ((ih_lc_o (T := (ih_u2 T 0 1 (nI 0))) (k := ih_ct T) (v := (fun a => (ih_lg T (60 * sn + ii) nn).2.2.2.2 a * 1000 / ih_al (ih_lg T (60 * sn + ii) nn).2.2.2.2)) 5).trans hI.2.1.1)) ?_
                  refine s_imulN C dX8_learn_182 ?_
                  refine s_bipush (v := nI 6) C dX8_learn_183 (by decide) ?_
                  refine s_iaddN C dX8_learn_185 ?_
                  refine s_iload C 1 dX8_learn_186 rfl ?_
                  refine s_iastore C 84 ((7 * (ih_ct T)) + 6) rfl rfl (by omega) (by decide) (by decide) rfl dX8_learn_188 ?_
                  refine m_w hM (fun S hM => ?_)
                  refine s_aload_n C 0 dX8_learn_189 rfl ?_
                  refine s_aload_n C 0 dX8_learn_190 rfl ?_
                  refine s_getI C 8 5 (by decide) rfl (by decide) rfl (fun _ h => List.mem_cons_of_mem _ (List.mem_append_right _ h)) (by decide) rfl (by decide +kernel) dX8_learn_191 ?_
                  refine s_toe (b := nI (ih_ct T)) ((hM.2 _ _ rfl).trans ((ih_lc_o (T := (ih_u2 T 0 1 (nI 0))) (k := ih_ct T) (v := (fun a => (ih_lg T (60 * sn + ii) nn).2.2.2.2 a * 1000 / ih_al (ih_lg T (60 * sn + ii) nn).2.2.2.2)) 5).trans hI.2.1.1)) ?_
                  refine s_callVv 1 C (c_X8_settle _ w _ _ hM _ (by omega)) gX8_learn_X8_settle rfl (by decide +kernel) (by decide) (by decide) (by decide) rfl (by decide) rfl rfl rfl (Nat.le_of_ble_eq_true rfl) dX8_learn_194 ?_
                  rintro S hM
                  refine s_aload_n C 0 dX8_learn_197 rfl ?_
                  refine s_dup C dX8_learn_198 rfl ?_
                  refine s_getI C 8 5 (by decide) rfl (by decide) rfl (fun _ h => List.mem_cons_of_mem _ (List.mem_append_right _ h)) (by decide) rfl (by decide +kernel) dX8_learn_199 ?_
                  refine s_toe (b := nI (ih_ct T)) ((hM.2 _ _ rfl).trans ((ih_lc_o (T := (ih_u2 T 0 1 (nI 0))) (k := ih_ct T) (v := (fun a => (ih_lg T (60 * sn + ii) nn).2.2.2.2 a * 1000 / ih_al (ih_lg T (60 * sn + ii) nn).2.2.2.2)) 5).trans hI.2.1.1)) ?_
                  refine s_iconst (v := nI 1) C dX8_learn_202 (by decide) ?_
                  refine s_iaddN C dX8_learn_203 ?_
                  refine s_putI (ty := .int) C 8 5 tyX8 tyX8_ok nmX8 (by decide) rfl (by decide) rfl (fun _ h => List.mem_cons_of_mem _ (List.mem_append_right _ h)) (by decide) rfl (by decide +kernel) rfl (by decide +kernel) rfl rfl dX8_learn_204 ?_
                  refine m_w hM (fun S hM => ?_)
                  refine s_aload_n C 0 dX8_learn_207 rfl ?_
                  refine s_getI C 8 5 (by decide) rfl (by decide) rfl (fun _ h => List.mem_cons_of_mem _ (List.mem_append_right _ h)) (by decide) rfl (by decide +kernel) dX8_learn_208 ?_
                  refine s_toe (b := nI (ih_ct T + 1)) ((hM.2 _ _ rfl).trans ih_u2_s) ?_
                  refine s_iconst (v := nI 1) C dX8_learn_211 (by decide) ?_
                  refine s_isubN C dX8_learn_212 (by omega) ?_
                  rw [hQ]
                  exact s_ireturn C hA dX8_learn_213 (by rw [sp_learn, if_pos (show (0 ≤ (nI sn).toInt ∧ (nI sn).toInt ≤ 7) ∧ (1 ≤ (nI nn).toInt ∧ (nI nn).toInt ≤ 20) ∧ (0 ≤ p_.toInt ∧ p_.toInt ≤ 1000) by omega), ih_n_nI hsn, ih_n_nI hnn, if_neg (show ¬ ih_ct T = 12 by omega), if_neg hla, if_pos hpl, ih_n_nI hii, if_neg h115]; exact ⟨rfl, hM⟩)
                have loop_130 : ∀ (fu m : Nat), m + fu = 5 → ∀ S, ih_RM S (ih_lc (ih_u2 T 0 1 (nI 0)) (ih_ct T) (fun a => (ih_lg T (60 * sn + ii) nn).2.2.2.2 a * 1000 / ih_al (ih_lg T (60 * sn + ii) nn).2.2.2.2) (m)) ∧ ih_LS S.1 (ih_lg T (60 * sn + ii) nn) → ih_Mw x w ih_shM A Q 9 0 0 130 [(0, .ref (w.2.2 0)), (4, .int p_), (7, .int (nI (ih_al (ih_lg T (60 * sn + ii) nn).2.2.2.2))), (8, .int (nI (m + 1)))] [] S := by
                  intro fu
                  induction fu with
                  | zero =>
                    intro m hme S ⟨hM, hq⟩
                    have hm0 : m = 5 := by omega
                    refine s_iload C 3 dX8_learn_130 rfl ?_
                    refine s_bipush (v := nI 6) C dX8_learn_132 (by decide) ?_
                    refine s_icmp_geN 172 C dX8_learn_134 (by decide) (by omega) (by omega) (fun h134 => ?_) (fun h134 => ?_)
                    · subst hm0
                      exact hx_130 _ ⟨hM, hq⟩
                    · exfalso; omega
                  | succ fu ih_130 =>
                    intro m hme S ⟨hM, hq⟩
                    have hml : m < 5 := by omega
                    refine s_iload C 3 dX8_learn_130 rfl ?_
                    refine s_bipush (v := nI 6) C dX8_learn_132 (by decide) ?_
                    refine s_icmp_geN 172 C dX8_learn_134 (by decide) (by omega) (by omega) (fun h134 => ?_) (fun h134 => ?_)
                    · exfalso; omega
                    · refine s_aload_n C 0 dX8_learn_137 rfl ?_
                      refine s_getR C 8 6 (hM.1 _ _ _ rfl) (by decide) rfl (by decide) rfl (fun _ h => List.mem_cons_of_mem _ (List.mem_append_right _ h)) (by decide) rfl (by decide +kernel) dX8_learn_138 ?_
                      refine s_bipush (v := nI 7) C dX8_learn_141 (by decide) ?_
                      refine s_aload_n C 0 dX8_learn_143 rfl ?_
                      refine s_getI C 8 5 (by decide) rfl (by decide) rfl (fun _ h => List.mem_cons_of_mem _ (List.mem_append_right _ h)) (by decide) rfl (by decide +kernel) dX8_learn_144 ?_
                      refine s_toe (b := nI (ih_ct T)) ((hM.2 _ _ rfl).trans ((ih_lc_o (T := (ih_u2 T 0 1 (nI 0))) (k := ih_ct T) (v := (fun a => (ih_lg T (60 * sn + ii) nn).2.2.2.2 a * 1000 / ih_al (ih_lg T (60 * sn + ii) nn).2.2.2.2)) m).trans hI.2.1.1)) ?_
                      refine s_imulN C dX8_learn_147 ?_
                      refine s_iload C 3 dX8_learn_148 rfl ?_
                      refine s_iaddN C dX8_learn_150 ?_
                      refine s_aload_n C 0 dX8_learn_151 rfl ?_
                      refine s_getR C 8 19 (hM.1 _ _ _ rfl) (by decide) rfl (by decide) rfl (fun _ h => List.mem_cons_of_mem _ (List.mem_append_right _ h)) (by decide) rfl (by decide +kernel) dX8_learn_152 ?_
                      refine s_iload C 3 dX8_learn_155 rfl ?_
                      refine s_iaload C 9 (m + 1) rfl rfl (by omega) (by decide) (by decide) rfl dX8_learn_157 ?_
                      refine s_toe (b := nI ((ih_lg T (60 * sn + ii) nn).2.2.2.2 (m + 1))) (hq.2.2.2.2 (m + 1) (by omega)) ?_
                      have hofm := hl4 (m + 1)
                      refine s_sipush (v := nI 1000) C dX8_learn_158 (by decide) ?_
                      refine s_imulN C dX8_learn_161 ?_
                      refine s_iload C 2 dX8_learn_162 rfl ?_
                      refine s_idivN C dX8_learn_164 (by omega) (by omega) (by omega) ?_
                      refine s_iastore C 84 ((7 * (ih_ct T)) + (m + 1)) rfl rfl (by omega) (by decide) (by decide) rfl dX8_learn_165 ?_
                      refine s_iinc (u := nI (m + 1 + 1)) (lv' := [(8, .int (nI (m + 1 + 1))), (0, .ref (w.2.2 0)), (4, .int p_), (7, .int (nI (ih_al (ih_lg T (60 * sn + ii) nn).2.2.2.2)))]) C 3 dX8_learn_166 rfl (ih_incN (by decide)) (by decide) rfl ?_
                      refine s_goto C 130 dX8_learn_169 (by decide) ?_
                      refine s_perm [1, 2, 3, 0] rfl ?_
                      exact ih_130 (m + 1) (by omega) _ ⟨ih_RM_w hM, hq⟩
                refine s_perm [4, 8, 1, 0] rfl ?_
                exact loop_130 5 0 (by omega) _ ⟨hM, hq⟩
              · refine s_aload_n C 3 dX8_learn_118 rfl ?_
                refine s_iload C 2 dX8_learn_119 rfl ?_
                refine s_putI (ty := .int) C 8 1 tyX8 tyX8_ok nmX8 (by decide) rfl (by decide) rfl (fun _ h => List.mem_cons_of_mem _ (List.mem_append_right _ h)) (by decide) rfl (by decide +kernel) rfl (by decide +kernel) rfl rfl dX8_learn_121 ?_
                refine m_w hM (fun S hM => ?_)
                refine s_ldc (v := (-1000002)) C (by decide +kernel) dX8_learn_124 ?_
                rw [hQ]
                exact s_ireturn C hA dX8_learn_126 (by rw [sp_learn, if_pos (show (0 ≤ (nI sn).toInt ∧ (nI sn).toInt ≤ 7) ∧ (1 ≤ (nI nn).toInt ∧ (nI nn).toInt ≤ 20) ∧ (0 ≤ p_.toInt ∧ p_.toInt ≤ 1000) by omega), ih_n_nI hsn, ih_n_nI hnn, if_neg (show ¬ ih_ct T = 12 by omega), if_neg hla, if_pos hpl, ih_n_nI hii, if_pos h115]; exact ⟨rfl, by rw [ih_u2_back] at hM; exact hM⟩)
            · exact absurd h64 (by decide)
        · refine s_ldc (v := (-1000003)) C (by decide +kernel) dX8_learn_44 ?_
          rw [hQ]
          exact s_ireturn C hA dX8_learn_46 (by rw [sp_learn, if_pos (show (0 ≤ (nI sn).toInt ∧ (nI sn).toInt ≤ 7) ∧ (1 ≤ (nI nn).toInt ∧ (nI nn).toInt ≤ 20) ∧ (0 ≤ p_.toInt ∧ p_.toInt ≤ 1000) by omega), if_pos (by omega)]; exact ⟨rfl, hM⟩)
      · replace h29 := ih_b0 hrc26 h29
        refine s_ldc (v := (-1000001)) C (by decide +kernel) dX8_learn_32 ?_
        rw [hQ]
        exact s_ireturn C hA dX8_learn_34 (by rw [sp_learn, if_neg (by omega)]; exact ⟨rfl, hM⟩)

