/-- the starts of a game with no half left, as they are told -/
def ih_T4 (Sb S : ih_Sg) (n : Nat) : Prop := S.2 = Sb.2 ∧ (∀ k, k ≠ 55 → S.1 k = Sb.1 k) ∧ ∀ L, L < n → S.1 55 L = nI (if 9 < L then 1000000 else if L = 9 then 500000 else 0)
theorem ih_T4_w {Sb S : ih_Sg} {n : Nat} {v : Int32} (h : ih_T4 Sb S n) (hv : v = nI (if 9 < n then 1000000 else if n = 9 then 500000 else 0)) : ih_T4 Sb (ih_sI S 55 n v) (n + 1) := by
  refine ⟨h.1, fun k hk => (ih_sI_row hk).trans (h.2.1 k hk), fun L hL => ?_⟩
  by_cases e : L = n
  · rw [e, ih_sI_s]; exact hv
  · rw [ih_sI_j e]; exact h.2.2 L (by omega)
set_option maxHeartbeats 4000000 in
set_option maxRecDepth 100000 in
theorem c_X4_init (l : Launch) (w0 : ih_Wd) (S : ih_Sg) (hv : ih_vg S (54)) : ih_Cc l yX4_init wsX4_init 2 4 1066 w0 ih_shX (54) (58) ih_E0 [.ref (w0.2.2 53), .ref (w0.2.2 43), .ref (w0.2.2 18)] S (fun u => (∃ V, ih_T4 (ih_sR (ih_sR (ih_sR (ih_sR (ih_sR (ih_sR (ih_sI (ih_sI S 54 0 (-1000000)) 54 1 (-1000000)) 53 2 (some 54)) 53 3 (some 55)) 53 5 (some 56)) 53 6 (some 57)) 53 0 (some 43)) 53 1 (some 18)) V 19 ∧ u.1 = ih_sI V 53 4 (nI 0)) ∧ ih_vg u.1 58) := by
  refine ih_bodyc rfl rfl (Nat.le_of_ble_eq_true rfl) rfl ?_
  intro x A hA C hin hEE
  obtain ⟨Q, hQ⟩ : ∃ Q, Q = ih_QG x w0 ih_shX (54) (58) 4 1066 A (fun u => (∃ V, ih_T4 (ih_sR (ih_sR (ih_sR (ih_sR (ih_sR (ih_sR (ih_sI (ih_sI S 54 0 (-1000000)) 54 1 (-1000000)) 53 2 (some 54)) 53 3 (some 55)) 53 5 (some 56)) 53 6 (some 57)) 53 0 (some 43)) 53 1 (some 18)) V 19 ∧ u.1 = ih_sI V 53 4 (nI 0)) ∧ ih_vg u.1 58) := ⟨_, rfl⟩
  suffices HH : ∀ w : ih_Wd, w.1 = w0.1 → w.2.1 = w0.2.1 → (∀ kq, kq < 54 → w0.2.2 kq = w.2.2 kq) → ih_Ok x w A cX4_init 4 RX4 wsX4_init (ih_rmC 2 4 1066) none → ih_Mw x w (ih_shN ih_shX (54)) A Q 4 0 0 0 [(0, .ref (w.2.2 53)), (1, .ref (w.2.2 43)), (2, .ref (w.2.2 18))] [] S by
    have h0 := HH w0 rfl rfl (fun _ _ => rfl) C
    rw [hQ] at h0
    exact h0
  intro w hE1 hE2 hag0 C
  refine s_aload_n C 0 dX4_init_0 rfl ?_
  refine s_obj C (by decide +kernel) (by decide +kernel) (by decide +kernel) (by decide) (by decide) dX4_init_1 ?_
  refine s_aload_n C 0 dX4_init_4 rfl ?_
  refine s_iconst (v := nI 2) C dX4_init_5 (by decide) ?_
  refine s_newI (n := 54) (N := 2) C hv rfl rfl rfl (by decide) (by decide +kernel) (by decide) dX4_init_6 ?_
  intro w ew1 ew2 hag
  replace C := ih_Ok_w ew1 ew2 C
  replace hE1 := ew1.trans hE1
  replace hE2 := ew2.trans hE2
  replace hag0 := fun kq (hkq : kq < 54) => (hag0 kq hkq).trans (hag kq (by omega))
  rw [hag (53) (by omega), hag (43) (by omega), hag (18) (by omega)]
  replace hv := vg_up (m := 55) hv (by omega)
  refine s_dup C dX4_init_8 rfl ?_
  refine s_iconst (v := nI 0) C dX4_init_9 (by decide) ?_
  refine s_ldc (v := (-1000000)) C (by decide +kernel) dX4_init_10 ?_
  refine s_iastore C 2 (0) rfl rfl (by decide) (by decide) (ih_ltN (by omega)) rfl dX4_init_12 ?_
  replace hv := vg_I (k := 54) (j := 0) (v := -1000000) hv (by omega)
  refine s_dup C dX4_init_13 rfl ?_
  refine s_iconst (v := nI 1) C dX4_init_14 (by decide) ?_
  refine s_ldc (v := (-1000000)) C (by decide +kernel) dX4_init_15 ?_
  refine s_iastore C 2 (1) rfl rfl (by decide) (by decide) (ih_ltN (by omega)) rfl dX4_init_17 ?_
  replace hv := vg_I (k := 54) (j := 1) (v := -1000000) hv (by omega)
  refine s_putF (ty := .array .int) C 4 2 tyX4 tyX4_ok nmX4 (ih_ltN (by omega)) rfl (by decide) rfl (fun _ h => List.mem_cons_of_mem _ (List.mem_append_right _ h)) (by decide) rfl (by decide +kernel) rfl hin rfl (by decide +kernel) rfl rfl dX4_init_18 ?_
  replace hv := vg_R (k := 53) (j := 2) (i := 54) hv (by omega) (by omega)
  refine s_aload_n C 0 dX4_init_21 rfl ?_
  refine s_bipush (v := nI 114) C dX4_init_22 (by decide) ?_
  refine s_newI (n := 55) (N := 114) C hv rfl rfl rfl (by decide) (by decide +kernel) (by decide) dX4_init_24 ?_
  intro w ew1 ew2 hag
  replace C := ih_Ok_w ew1 ew2 C
  replace hE1 := ew1.trans hE1
  replace hE2 := ew2.trans hE2
  replace hag0 := fun kq (hkq : kq < 54) => (hag0 kq hkq).trans (hag kq (by omega))
  rw [hag (53) (by omega), hag (43) (by omega), hag (18) (by omega)]
  replace hv := vg_up (m := 56) hv (by omega)
  refine s_putF (ty := .array .int) C 4 3 tyX4 tyX4_ok nmX4 (ih_ltN (by omega)) rfl (by decide) rfl (fun _ h => List.mem_cons_of_mem _ (List.mem_append_right _ h)) (by decide) rfl (by decide +kernel) rfl hin rfl (by decide +kernel) rfl rfl dX4_init_26 ?_
  replace hv := vg_R (k := 53) (j := 3) (i := 55) hv (by omega) (by omega)
  refine s_aload_n C 0 dX4_init_29 rfl ?_
  refine s_sipush (v := nI 475) C dX4_init_30 (by decide) ?_
  refine s_newI (n := 56) (N := 475) C hv rfl rfl rfl (by decide) (by decide +kernel) (by decide) dX4_init_33 ?_
  intro w ew1 ew2 hag
  replace C := ih_Ok_w ew1 ew2 C
  replace hE1 := ew1.trans hE1
  replace hE2 := ew2.trans hE2
  replace hag0 := fun kq (hkq : kq < 54) => (hag0 kq hkq).trans (hag kq (by omega))
  rw [hag (53) (by omega), hag (43) (by omega), hag (18) (by omega)]
  replace hv := vg_up (m := 57) hv (by omega)
  refine s_putR (ty := .array .int) C 4 5 tyX4 tyX4_ok nmX4 (ih_ltN (by omega)) rfl (by decide) rfl (fun _ h => List.mem_cons_of_mem _ (List.mem_append_right _ h)) (by decide) rfl (by decide +kernel) rfl (by decide +kernel) rfl rfl dX4_init_35 ?_
  replace hv := vg_R (k := 53) (j := 5) (i := 56) hv (by omega) (by omega)
  refine s_aload_n C 0 dX4_init_38 rfl ?_
  refine s_sipush (v := nI 475) C dX4_init_39 (by decide) ?_
  refine s_newI (n := 57) (N := 475) C hv rfl rfl rfl (by decide) (by decide +kernel) (by decide) dX4_init_42 ?_
  intro w ew1 ew2 hag
  replace C := ih_Ok_w ew1 ew2 C
  replace hE1 := ew1.trans hE1
  replace hE2 := ew2.trans hE2
  replace hag0 := fun kq (hkq : kq < 54) => (hag0 kq hkq).trans (hag kq (by omega))
  rw [hag (53) (by omega), hag (43) (by omega), hag (18) (by omega)]
  replace hv := vg_up (m := 58) hv (by omega)
  refine s_putR (ty := .array .int) C 4 6 tyX4 tyX4_ok nmX4 (ih_ltN (by omega)) rfl (by decide) rfl (fun _ h => List.mem_cons_of_mem _ (List.mem_append_right _ h)) (by decide) rfl (by decide +kernel) rfl (by decide +kernel) rfl rfl dX4_init_44 ?_
  replace hv := vg_R (k := 53) (j := 6) (i := 57) hv (by omega) (by omega)
  refine s_aload_n C 0 dX4_init_47 rfl ?_
  refine s_aload_n C 1 dX4_init_48 rfl ?_
  refine s_putF (ty := .object "InningsHouse$Bases") C 4 0 tyX4 tyX4_ok nmX4 (ih_ltN (by omega)) rfl (by decide) rfl (fun _ h => List.mem_cons_of_mem _ (List.mem_append_right _ h)) (by decide) rfl (by decide +kernel) rfl hin rfl (by decide +kernel) rfl rfl dX4_init_49 ?_
  replace hv := vg_R (k := 53) (j := 0) (i := 43) hv (by omega) (by omega)
  refine s_aload_n C 0 dX4_init_52 rfl ?_
  refine s_aload_n C 2 dX4_init_53 rfl ?_
  refine s_putF (ty := .array (.object "InningsHouse$Striker")) C 4 1 tyX4 tyX4_ok nmX4 (ih_ltN (by omega)) rfl (by decide) rfl (fun _ h => List.mem_cons_of_mem _ (List.mem_append_right _ h)) (by decide) rfl (by decide +kernel) rfl hin rfl (by decide +kernel) rfl rfl dX4_init_54 ?_
  replace hv := vg_R (k := 53) (j := 1) (i := 18) hv (by omega) (by omega)
  obtain ⟨Sb, hSb⟩ : ∃ Sb, Sb = ih_sR (ih_sR (ih_sR (ih_sR (ih_sR (ih_sR (ih_sI (ih_sI S 54 0 (-1000000)) 54 1 (-1000000)) 53 2 (some 54)) 53 3 (some 55)) 53 5 (some 56)) 53 6 (some 57)) 53 0 (some 43)) 53 1 (some 18) := ⟨_, rfl⟩
  rw [← hSb] at hv ⊢
  have hq3 : Sb.2.2 53 3 = some 55 := by rw [hSb]; rfl
  refine s_iconst (v := nI 0) C dX4_init_57 (by decide) ?_
  refine s_istore_n (lv' := [(3, .int (nI 0)), (0, .ref (w.2.2 53)), (1, .ref (w.2.2 43)), (2, .ref (w.2.2 18))]) C dX4_init_58 rfl (by decide) rfl ?_
  have hx_59 : ∀ S, (ih_T4 Sb S (19) ∧ ih_vg S 58) → ih_Mw x w (ih_shN ih_shX 58) A Q 4 4 1066 100 [(0, .ref (w.2.2 53)), (1, .ref (w.2.2 43)), (2, .ref (w.2.2 18))] [] S := by
    intro S ⟨hE, hv⟩
    refine s_aload_n C 0 dX4_init_100 rfl ?_
    refine s_iconst (v := nI 0) C dX4_init_101 (by decide) ?_
    refine s_putI (ty := .int) C 4 4 tyX4 tyX4_ok nmX4 (ih_ltN (by omega)) rfl (by decide) rfl (fun _ h => List.mem_cons_of_mem _ (List.mem_append_right _ h)) (by decide) rfl (by decide +kernel) rfl (by decide +kernel) rfl rfl dX4_init_102 ?_
    replace hv := vg_I (k := 53) (j := 4) (v := nI (0)) hv (by omega)
    rw [hQ]
    exact s_vretG C hA hE1 hE2 hag0 dX4_init_105 ⟨by rw [← hSb]; exact ⟨_, hE, rfl⟩, hv⟩
  have loop_59 : ∀ (fu Lv : Nat), Lv + fu = 19 → ∀ S, (ih_T4 Sb S (Lv) ∧ ih_vg S 58) → ih_Mw x w (ih_shN ih_shX 58) A Q 4 4 1066 59 [(0, .ref (w.2.2 53)), (1, .ref (w.2.2 43)), (2, .ref (w.2.2 18)), (3, .int (nI Lv))] [] S := by
    intro fu
    induction fu with
    | zero =>
      intro Lv hLve S ⟨hE, hv⟩
      have hLv0 : Lv = 19 := by omega
      refine s_iload_n C 3 dX4_init_59 rfl ?_
      refine s_bipush (v := nI 19) C dX4_init_60 (by decide) ?_
      refine s_icmp_geN 100 C dX4_init_62 (by decide) (by omega) (by omega) (fun h62 => ?_) (fun h62 => ?_)
      · refine s_perm [0, 1, 2] rfl ?_
        subst hLv0
        exact hx_59 _ ⟨hE, hv⟩
      · exfalso; omega
    | succ fu ih_59 =>
      intro Lv hLve S ⟨hE, hv⟩
      have hLvl : Lv < 19 := by omega
      refine s_iload_n C 3 dX4_init_59 rfl ?_
      refine s_bipush (v := nI 19) C dX4_init_60 (by decide) ?_
      refine s_icmp_geN 100 C dX4_init_62 (by decide) (by omega) (by omega) (fun h62 => ?_) (fun h62 => ?_)
      · exfalso; omega
      · refine s_aload_n C 0 dX4_init_65 rfl ?_
        refine s_getR C 4 3 (by rw [hE.1]; exact hq3) (ih_ltN (by omega)) rfl (by decide) rfl (fun _ h => List.mem_cons_of_mem _ (List.mem_append_right _ h)) (by decide) rfl (by decide +kernel) dX4_init_66 ?_
        refine s_iload_n C 3 dX4_init_69 rfl ?_
        refine s_iload_n C 3 dX4_init_70 rfl ?_
        refine s_bipush (v := nI 9) C dX4_init_71 (by decide) ?_
        refine s_icmp_leN 81 C dX4_init_73 (by decide) (by omega) (by omega) (fun h73 => ?_) (fun h73 => ?_)
        · refine s_iload_n C 3 dX4_init_81 rfl ?_
          refine s_bipush (v := nI 9) C dX4_init_82 (by decide) ?_
          refine s_icmp_neN 92 C dX4_init_84 (by decide) (by omega) (by omega) (fun h84 => ?_) (fun h84 => ?_)
          · refine s_iconst (v := nI 0) C dX4_init_92 (by decide) ?_
            refine s_toe (b := nI (if 9 < Lv then 1000000 else if Lv = 9 then 500000 else 0)) (congrArg nI (by rw [if_neg (by omega), if_neg (by omega)])) ?_
            refine s_iastore C 114 (Lv) rfl rfl (by omega) (by decide) (ih_ltN (by omega)) rfl dX4_init_93 ?_
            refine s_iinc (u := nI (Lv + 1)) (lv' := [(3, .int (nI (Lv + 1))), (0, .ref (w.2.2 53)), (1, .ref (w.2.2 43)), (2, .ref (w.2.2 18))]) C 3 dX4_init_94 rfl (ih_incN (by decide)) (by decide) rfl ?_
            refine s_goto C 59 dX4_init_97 (by decide) ?_
            refine s_perm [1, 2, 3, 0] rfl ?_
            exact ih_59 (Lv + 1) (by omega) _ ⟨ih_T4_w hE rfl, vg_I hv (by omega)⟩
          · refine s_ldc (v := nI 500000) C (by decide +kernel) dX4_init_87 ?_
            refine s_goto C 93 dX4_init_89 (by decide) ?_
            refine s_toe (b := nI (if 9 < Lv then 1000000 else if Lv = 9 then 500000 else 0)) (congrArg nI (by rw [if_neg (by omega), if_pos (by omega)])) ?_
            refine s_iastore C 114 (Lv) rfl rfl (by omega) (by decide) (ih_ltN (by omega)) rfl dX4_init_93 ?_
            refine s_iinc (u := nI (Lv + 1)) (lv' := [(3, .int (nI (Lv + 1))), (0, .ref (w.2.2 53)), (1, .ref (w.2.2 43)), (2, .ref (w.2.2 18))]) C 3 dX4_init_94 rfl (ih_incN (by decide)) (by decide) rfl ?_
            refine s_goto C 59 dX4_init_97 (by decide) ?_
            refine s_perm [1, 2, 3, 0] rfl ?_
            exact ih_59 (Lv + 1) (by omega) _ ⟨ih_T4_w hE rfl, vg_I hv (by omega)⟩
        · refine s_ldc (v := nI 1000000) C (by decide +kernel) dX4_init_76 ?_
          refine s_goto C 93 dX4_init_78 (by decide) ?_
          refine s_toe (b := nI (if 9 < Lv then 1000000 else if Lv = 9 then 500000 else 0)) (congrArg nI (by rw [if_pos (by omega)])) ?_
          refine s_iastore C 114 (Lv) rfl rfl (by omega) (by decide) (ih_ltN (by omega)) rfl dX4_init_93 ?_
          refine s_iinc (u := nI (Lv + 1)) (lv' := [(3, .int (nI (Lv + 1))), (0, .ref (w.2.2 53)), (1, .ref (w.2.2 43)), (2, .ref (w.2.2 18))]) C 3 dX4_init_94 rfl (ih_incN (by decide)) (by decide) rfl ?_
          refine s_goto C 59 dX4_init_97 (by decide) ?_
          refine s_perm [1, 2, 3, 0] rfl ?_
          exact ih_59 (Lv + 1) (by omega) _ ⟨ih_T4_w hE rfl, vg_I hv (by omega)⟩
  refine s_perm [1, 2, 3, 0] rfl ?_
  exact loop_59 19 0 (by omega) _ ⟨⟨rfl, fun _ _ => rfl, fun L hL => absurd hL (Nat.not_lt_zero L)⟩, hv⟩

set_option maxHeartbeats 4000000 in
set_option maxRecDepth 100000 in
theorem c_X8_init (l : Launch) (w0 : ih_Wd) (S : ih_Sg) (hv : ih_vg S (1)) : ih_Cc l yX8_init wsX8_init 2 13 151450 w0 ih_shM (1) (14) ih_E0 [.ref (w0.2.2 0)] S (fun u => u.1 = (ih_sR (ih_sR (ih_sR (ih_sR (ih_sR (ih_sI (ih_sI (ih_sR (ih_sR (ih_sR (ih_sR (ih_sR (ih_sR (ih_sR (ih_sR (ih_sI (ih_sI (ih_sI (ih_sI (ih_sI (ih_sI (ih_sI (ih_sI S 1 0 (-1)) 1 1 (-1)) 1 2 (-1)) 1 3 (-1)) 1 4 (-1)) 1 5 (-1)) 1 6 (-1)) 1 7 (-1)) 0 2 (some 1)) 0 3 (some 2)) 0 4 (some 3)) 0 6 (some 4)) 0 8 (some 5)) 0 9 (some 6)) 0 10 (some 7)) 0 11 (some 8)) 9 0 (-1000000)) 9 1 (-1000000)) 0 12 (some 9)) 0 13 (some 10)) 0 14 (some 11)) 0 19 (some 12)) 0 20 (some 13))) := by
  refine ih_bodyc rfl rfl (Nat.le_of_ble_eq_true rfl) rfl ?_
  intro x A hA C hin hEE
  obtain ⟨Q, hQ⟩ : ∃ Q, Q = ih_QG x w0 ih_shM (1) (14) 13 151450 A (fun u => u.1 = (ih_sR (ih_sR (ih_sR (ih_sR (ih_sR (ih_sI (ih_sI (ih_sR (ih_sR (ih_sR (ih_sR (ih_sR (ih_sR (ih_sR (ih_sR (ih_sI (ih_sI (ih_sI (ih_sI (ih_sI (ih_sI (ih_sI (ih_sI S 1 0 (-1)) 1 1 (-1)) 1 2 (-1)) 1 3 (-1)) 1 4 (-1)) 1 5 (-1)) 1 6 (-1)) 1 7 (-1)) 0 2 (some 1)) 0 3 (some 2)) 0 4 (some 3)) 0 6 (some 4)) 0 8 (some 5)) 0 9 (some 6)) 0 10 (some 7)) 0 11 (some 8)) 9 0 (-1000000)) 9 1 (-1000000)) 0 12 (some 9)) 0 13 (some 10)) 0 14 (some 11)) 0 19 (some 12)) 0 20 (some 13))) := ⟨_, rfl⟩
  suffices HH : ∀ w : ih_Wd, w.1 = w0.1 → w.2.1 = w0.2.1 → (∀ kq, kq < 1 → w0.2.2 kq = w.2.2 kq) → ih_Ok x w A cX8_init 1 RX8 wsX8_init (ih_rmC 2 13 151450) none → ih_Mw x w (ih_shN ih_shM (1)) A Q 1 0 0 0 [(0, .ref (w.2.2 0))] [] S by
    have h0 := HH w0 rfl rfl (fun _ _ => rfl) C
    rw [hQ] at h0
    exact h0
  intro w hE1 hE2 hag0 C
  refine s_aload_n C 0 dX8_init_0 rfl ?_
  refine s_obj C (by decide +kernel) (by decide +kernel) (by decide +kernel) (by decide) (by decide) dX8_init_1 ?_
  refine s_aload_n C 0 dX8_init_4 rfl ?_
  refine s_bipush (v := nI 8) C dX8_init_5 (by decide) ?_
  refine s_newI (n := 1) (N := 8) C hv rfl rfl rfl (by decide) (by decide +kernel) (by decide) dX8_init_7 ?_
  intro w ew1 ew2 hag
  replace C := ih_Ok_w ew1 ew2 C
  replace hE1 := ew1.trans hE1
  replace hE2 := ew2.trans hE2
  replace hag0 := fun kq (hkq : kq < 1) => (hag0 kq hkq).trans (hag kq (by omega))
  rw [hag (0) (by omega)]
  replace hv := vg_up (m := 2) hv (by omega)
  refine s_dup C dX8_init_9 rfl ?_
  refine s_iconst (v := nI 0) C dX8_init_10 (by decide) ?_
  refine s_iconst (v := (-1)) C dX8_init_11 (by decide) ?_
  refine s_iastore C 8 (0) rfl rfl (by decide) (by decide) (ih_ltN (by omega)) rfl dX8_init_12 ?_
  replace hv := vg_I (k := 1) (j := 0) (v := -1) hv (by omega)
  refine s_dup C dX8_init_13 rfl ?_
  refine s_iconst (v := nI 1) C dX8_init_14 (by decide) ?_
  refine s_iconst (v := (-1)) C dX8_init_15 (by decide) ?_
  refine s_iastore C 8 (1) rfl rfl (by decide) (by decide) (ih_ltN (by omega)) rfl dX8_init_16 ?_
  replace hv := vg_I (k := 1) (j := 1) (v := -1) hv (by omega)
  refine s_dup C dX8_init_17 rfl ?_
  refine s_iconst (v := nI 2) C dX8_init_18 (by decide) ?_
  refine s_iconst (v := (-1)) C dX8_init_19 (by decide) ?_
  refine s_iastore C 8 (2) rfl rfl (by decide) (by decide) (ih_ltN (by omega)) rfl dX8_init_20 ?_
  replace hv := vg_I (k := 1) (j := 2) (v := -1) hv (by omega)
  refine s_dup C dX8_init_21 rfl ?_
  refine s_iconst (v := nI 3) C dX8_init_22 (by decide) ?_
  refine s_iconst (v := (-1)) C dX8_init_23 (by decide) ?_
  refine s_iastore C 8 (3) rfl rfl (by decide) (by decide) (ih_ltN (by omega)) rfl dX8_init_24 ?_
  replace hv := vg_I (k := 1) (j := 3) (v := -1) hv (by omega)
  refine s_dup C dX8_init_25 rfl ?_
  refine s_iconst (v := nI 4) C dX8_init_26 (by decide) ?_
  refine s_iconst (v := (-1)) C dX8_init_27 (by decide) ?_
  refine s_iastore C 8 (4) rfl rfl (by decide) (by decide) (ih_ltN (by omega)) rfl dX8_init_28 ?_
  replace hv := vg_I (k := 1) (j := 4) (v := -1) hv (by omega)
  refine s_dup C dX8_init_29 rfl ?_
  refine s_iconst (v := nI 5) C dX8_init_30 (by decide) ?_
  refine s_iconst (v := (-1)) C dX8_init_31 (by decide) ?_
  refine s_iastore C 8 (5) rfl rfl (by decide) (by decide) (ih_ltN (by omega)) rfl dX8_init_32 ?_
  replace hv := vg_I (k := 1) (j := 5) (v := -1) hv (by omega)
  refine s_dup C dX8_init_33 rfl ?_
  refine s_bipush (v := nI 6) C dX8_init_34 (by decide) ?_
  refine s_iconst (v := (-1)) C dX8_init_36 (by decide) ?_
  refine s_iastore C 8 (6) rfl rfl (by decide) (by decide) (ih_ltN (by omega)) rfl dX8_init_37 ?_
  replace hv := vg_I (k := 1) (j := 6) (v := -1) hv (by omega)
  refine s_dup C dX8_init_38 rfl ?_
  refine s_bipush (v := nI 7) C dX8_init_39 (by decide) ?_
  refine s_iconst (v := (-1)) C dX8_init_41 (by decide) ?_
  refine s_iastore C 8 (7) rfl rfl (by decide) (by decide) (ih_ltN (by omega)) rfl dX8_init_42 ?_
  replace hv := vg_I (k := 1) (j := 7) (v := -1) hv (by omega)
  refine s_putF (ty := .array .int) C 8 2 tyX8 tyX8_ok nmX8 (ih_ltN (by omega)) rfl (by decide) rfl (fun _ h => List.mem_cons_of_mem _ (List.mem_append_right _ h)) (by decide) rfl (by decide +kernel) rfl hin rfl (by decide +kernel) rfl rfl dX8_init_43 ?_
  replace hv := vg_R (k := 0) (j := 2) (i := 1) hv (by omega) (by omega)
  refine s_aload_n C 0 dX8_init_46 rfl ?_
  refine s_bipush (v := nI 8) C dX8_init_47 (by decide) ?_
  refine s_newI (n := 2) (N := 8) C hv rfl rfl rfl (by decide) (by decide +kernel) (by decide) dX8_init_49 ?_
  intro w ew1 ew2 hag
  replace C := ih_Ok_w ew1 ew2 C
  replace hE1 := ew1.trans hE1
  replace hE2 := ew2.trans hE2
  replace hag0 := fun kq (hkq : kq < 1) => (hag0 kq hkq).trans (hag kq (by omega))
  rw [hag (0) (by omega)]
  replace hv := vg_up (m := 3) hv (by omega)
  refine s_putF (ty := .array .int) C 8 3 tyX8 tyX8_ok nmX8 (ih_ltN (by omega)) rfl (by decide) rfl (fun _ h => List.mem_cons_of_mem _ (List.mem_append_right _ h)) (by decide) rfl (by decide +kernel) rfl hin rfl (by decide +kernel) rfl rfl dX8_init_51 ?_
  replace hv := vg_R (k := 0) (j := 3) (i := 2) hv (by omega) (by omega)
  refine s_aload_n C 0 dX8_init_54 rfl ?_
  refine s_sipush (v := nI 480) C dX8_init_55 (by decide) ?_
  refine s_newI (n := 3) (N := 480) C hv rfl rfl rfl (by decide) (by decide +kernel) (by decide) dX8_init_58 ?_
  intro w ew1 ew2 hag
  replace C := ih_Ok_w ew1 ew2 C
  replace hE1 := ew1.trans hE1
  replace hE2 := ew2.trans hE2
  replace hag0 := fun kq (hkq : kq < 1) => (hag0 kq hkq).trans (hag kq (by omega))
  rw [hag (0) (by omega)]
  replace hv := vg_up (m := 4) hv (by omega)
  refine s_putF (ty := .array .int) C 8 4 tyX8 tyX8_ok nmX8 (ih_ltN (by omega)) rfl (by decide) rfl (fun _ h => List.mem_cons_of_mem _ (List.mem_append_right _ h)) (by decide) rfl (by decide +kernel) rfl hin rfl (by decide +kernel) rfl rfl dX8_init_60 ?_
  replace hv := vg_R (k := 0) (j := 4) (i := 3) hv (by omega) (by omega)
  refine s_aload_n C 0 dX8_init_63 rfl ?_
  refine s_bipush (v := nI 84) C dX8_init_64 (by decide) ?_
  refine s_newI (n := 4) (N := 84) C hv rfl rfl rfl (by decide) (by decide +kernel) (by decide) dX8_init_66 ?_
  intro w ew1 ew2 hag
  replace C := ih_Ok_w ew1 ew2 C
  replace hE1 := ew1.trans hE1
  replace hE2 := ew2.trans hE2
  replace hag0 := fun kq (hkq : kq < 1) => (hag0 kq hkq).trans (hag kq (by omega))
  rw [hag (0) (by omega)]
  replace hv := vg_up (m := 5) hv (by omega)
  refine s_putF (ty := .array .int) C 8 6 tyX8 tyX8_ok nmX8 (ih_ltN (by omega)) rfl (by decide) rfl (fun _ h => List.mem_cons_of_mem _ (List.mem_append_right _ h)) (by decide) rfl (by decide +kernel) rfl hin rfl (by decide +kernel) rfl rfl dX8_init_68 ?_
  replace hv := vg_R (k := 0) (j := 6) (i := 4) hv (by omega) (by omega)
  refine s_aload_n C 0 dX8_init_71 rfl ?_
  refine s_bipush (v := nI 9) C dX8_init_72 (by decide) ?_
  refine s_newI (n := 5) (N := 9) C hv rfl rfl rfl (by decide) (by decide +kernel) (by decide) dX8_init_74 ?_
  intro w ew1 ew2 hag
  replace C := ih_Ok_w ew1 ew2 C
  replace hE1 := ew1.trans hE1
  replace hE2 := ew2.trans hE2
  replace hag0 := fun kq (hkq : kq < 1) => (hag0 kq hkq).trans (hag kq (by omega))
  rw [hag (0) (by omega)]
  replace hv := vg_up (m := 6) hv (by omega)
  refine s_putF (ty := .array .int) C 8 8 tyX8 tyX8_ok nmX8 (ih_ltN (by omega)) rfl (by decide) rfl (fun _ h => List.mem_cons_of_mem _ (List.mem_append_right _ h)) (by decide) rfl (by decide +kernel) rfl hin rfl (by decide +kernel) rfl rfl dX8_init_76 ?_
  replace hv := vg_R (k := 0) (j := 8) (i := 5) hv (by omega) (by omega)
  refine s_aload_n C 0 dX8_init_79 rfl ?_
  refine s_sipush (v := nI 6975) C dX8_init_80 (by decide) ?_
  refine s_newI (n := 6) (N := 6975) C hv rfl rfl rfl (by decide) (by decide +kernel) (by decide) dX8_init_83 ?_
  intro w ew1 ew2 hag
  replace C := ih_Ok_w ew1 ew2 C
  replace hE1 := ew1.trans hE1
  replace hE2 := ew2.trans hE2
  replace hag0 := fun kq (hkq : kq < 1) => (hag0 kq hkq).trans (hag kq (by omega))
  rw [hag (0) (by omega)]
  replace hv := vg_up (m := 7) hv (by omega)
  refine s_putF (ty := .array .int) C 8 9 tyX8 tyX8_ok nmX8 (ih_ltN (by omega)) rfl (by decide) rfl (fun _ h => List.mem_cons_of_mem _ (List.mem_append_right _ h)) (by decide) rfl (by decide +kernel) rfl hin rfl (by decide +kernel) rfl rfl dX8_init_85 ?_
  replace hv := vg_R (k := 0) (j := 9) (i := 6) hv (by omega) (by omega)
  refine s_aload_n C 0 dX8_init_88 rfl ?_
  refine s_ldc (v := nI 69750) C (by decide +kernel) dX8_init_89 ?_
  refine s_newI (n := 7) (N := 69750) C hv rfl rfl rfl (by decide) (by decide +kernel) (by decide) dX8_init_91 ?_
  intro w ew1 ew2 hag
  replace C := ih_Ok_w ew1 ew2 C
  replace hE1 := ew1.trans hE1
  replace hE2 := ew2.trans hE2
  replace hag0 := fun kq (hkq : kq < 1) => (hag0 kq hkq).trans (hag kq (by omega))
  rw [hag (0) (by omega)]
  replace hv := vg_up (m := 8) hv (by omega)
  refine s_putF (ty := .array .int) C 8 10 tyX8 tyX8_ok nmX8 (ih_ltN (by omega)) rfl (by decide) rfl (fun _ h => List.mem_cons_of_mem _ (List.mem_append_right _ h)) (by decide) rfl (by decide +kernel) rfl hin rfl (by decide +kernel) rfl rfl dX8_init_93 ?_
  replace hv := vg_R (k := 0) (j := 10) (i := 7) hv (by omega) (by omega)
  refine s_aload_n C 0 dX8_init_96 rfl ?_
  refine s_bipush (v := nI 9) C dX8_init_97 (by decide) ?_
  refine s_newI (n := 8) (N := 9) C hv rfl rfl rfl (by decide) (by decide +kernel) (by decide) dX8_init_99 ?_
  intro w ew1 ew2 hag
  replace C := ih_Ok_w ew1 ew2 C
  replace hE1 := ew1.trans hE1
  replace hE2 := ew2.trans hE2
  replace hag0 := fun kq (hkq : kq < 1) => (hag0 kq hkq).trans (hag kq (by omega))
  rw [hag (0) (by omega)]
  replace hv := vg_up (m := 9) hv (by omega)
  refine s_putF (ty := .array .int) C 8 11 tyX8 tyX8_ok nmX8 (ih_ltN (by omega)) rfl (by decide) rfl (fun _ h => List.mem_cons_of_mem _ (List.mem_append_right _ h)) (by decide) rfl (by decide +kernel) rfl hin rfl (by decide +kernel) rfl rfl dX8_init_101 ?_
  replace hv := vg_R (k := 0) (j := 11) (i := 8) hv (by omega) (by omega)
  refine s_aload_n C 0 dX8_init_104 rfl ?_
  refine s_iconst (v := nI 2) C dX8_init_105 (by decide) ?_
  refine s_newI (n := 9) (N := 2) C hv rfl rfl rfl (by decide) (by decide +kernel) (by decide) dX8_init_106 ?_
  intro w ew1 ew2 hag
  replace C := ih_Ok_w ew1 ew2 C
  replace hE1 := ew1.trans hE1
  replace hE2 := ew2.trans hE2
  replace hag0 := fun kq (hkq : kq < 1) => (hag0 kq hkq).trans (hag kq (by omega))
  rw [hag (0) (by omega)]
  replace hv := vg_up (m := 10) hv (by omega)
  refine s_dup C dX8_init_108 rfl ?_
  refine s_iconst (v := nI 0) C dX8_init_109 (by decide) ?_
  refine s_ldc (v := (-1000000)) C (by decide +kernel) dX8_init_110 ?_
  refine s_iastore C 2 (0) rfl rfl (by decide) (by decide) (ih_ltN (by omega)) rfl dX8_init_112 ?_
  replace hv := vg_I (k := 9) (j := 0) (v := -1000000) hv (by omega)
  refine s_dup C dX8_init_113 rfl ?_
  refine s_iconst (v := nI 1) C dX8_init_114 (by decide) ?_
  refine s_ldc (v := (-1000000)) C (by decide +kernel) dX8_init_115 ?_
  refine s_iastore C 2 (1) rfl rfl (by decide) (by decide) (ih_ltN (by omega)) rfl dX8_init_117 ?_
  replace hv := vg_I (k := 9) (j := 1) (v := -1000000) hv (by omega)
  refine s_putF (ty := .array .int) C 8 12 tyX8 tyX8_ok nmX8 (ih_ltN (by omega)) rfl (by decide) rfl (fun _ h => List.mem_cons_of_mem _ (List.mem_append_right _ h)) (by decide) rfl (by decide +kernel) rfl hin rfl (by decide +kernel) rfl rfl dX8_init_118 ?_
  replace hv := vg_R (k := 0) (j := 12) (i := 9) hv (by omega) (by omega)
  refine s_aload_n C 0 dX8_init_121 rfl ?_
  refine s_ldc (v := nI 37050) C (by decide +kernel) dX8_init_122 ?_
  refine s_newI (n := 10) (N := 37050) C hv rfl rfl rfl (by decide) (by decide +kernel) (by decide) dX8_init_124 ?_
  intro w ew1 ew2 hag
  replace C := ih_Ok_w ew1 ew2 C
  replace hE1 := ew1.trans hE1
  replace hE2 := ew2.trans hE2
  replace hag0 := fun kq (hkq : kq < 1) => (hag0 kq hkq).trans (hag kq (by omega))
  rw [hag (0) (by omega)]
  replace hv := vg_up (m := 11) hv (by omega)
  refine s_putF (ty := .array .int) C 8 13 tyX8 tyX8_ok nmX8 (ih_ltN (by omega)) rfl (by decide) rfl (fun _ h => List.mem_cons_of_mem _ (List.mem_append_right _ h)) (by decide) rfl (by decide +kernel) rfl hin rfl (by decide +kernel) rfl rfl dX8_init_126 ?_
  replace hv := vg_R (k := 0) (j := 13) (i := 10) hv (by omega) (by omega)
  refine s_aload_n C 0 dX8_init_129 rfl ?_
  refine s_ldc (v := nI 37050) C (by decide +kernel) dX8_init_130 ?_
  refine s_newI (n := 11) (N := 37050) C hv rfl rfl rfl (by decide) (by decide +kernel) (by decide) dX8_init_132 ?_
  intro w ew1 ew2 hag
  replace C := ih_Ok_w ew1 ew2 C
  replace hE1 := ew1.trans hE1
  replace hE2 := ew2.trans hE2
  replace hag0 := fun kq (hkq : kq < 1) => (hag0 kq hkq).trans (hag kq (by omega))
  rw [hag (0) (by omega)]
  replace hv := vg_up (m := 12) hv (by omega)
  refine s_putF (ty := .array .int) C 8 14 tyX8 tyX8_ok nmX8 (ih_ltN (by omega)) rfl (by decide) rfl (fun _ h => List.mem_cons_of_mem _ (List.mem_append_right _ h)) (by decide) rfl (by decide +kernel) rfl hin rfl (by decide +kernel) rfl rfl dX8_init_134 ?_
  replace hv := vg_R (k := 0) (j := 14) (i := 11) hv (by omega) (by omega)
  refine s_aload_n C 0 dX8_init_137 rfl ?_
  refine s_bipush (v := nI 9) C dX8_init_138 (by decide) ?_
  refine s_newI (n := 12) (N := 9) C hv rfl rfl rfl (by decide) (by decide +kernel) (by decide) dX8_init_140 ?_
  intro w ew1 ew2 hag
  replace C := ih_Ok_w ew1 ew2 C
  replace hE1 := ew1.trans hE1
  replace hE2 := ew2.trans hE2
  replace hag0 := fun kq (hkq : kq < 1) => (hag0 kq hkq).trans (hag kq (by omega))
  rw [hag (0) (by omega)]
  replace hv := vg_up (m := 13) hv (by omega)
  refine s_putF (ty := .array .int) C 8 19 tyX8 tyX8_ok nmX8 (ih_ltN (by omega)) rfl (by decide) rfl (fun _ h => List.mem_cons_of_mem _ (List.mem_append_right _ h)) (by decide) rfl (by decide +kernel) rfl hin rfl (by decide +kernel) rfl rfl dX8_init_142 ?_
  replace hv := vg_R (k := 0) (j := 19) (i := 12) hv (by omega) (by omega)
  refine s_aload_n C 0 dX8_init_145 rfl ?_
  refine s_bipush (v := nI 16) C dX8_init_146 (by decide) ?_
  refine s_newI (n := 13) (N := 16) C hv rfl rfl rfl (by decide) (by decide +kernel) (by decide) dX8_init_148 ?_
  intro w ew1 ew2 hag
  replace C := ih_Ok_w ew1 ew2 C
  replace hE1 := ew1.trans hE1
  replace hE2 := ew2.trans hE2
  replace hag0 := fun kq (hkq : kq < 1) => (hag0 kq hkq).trans (hag kq (by omega))
  rw [hag (0) (by omega)]
  replace hv := vg_up (m := 14) hv (by omega)
  refine s_putF (ty := .array .int) C 8 20 tyX8 tyX8_ok nmX8 (ih_ltN (by omega)) rfl (by decide) rfl (fun _ h => List.mem_cons_of_mem _ (List.mem_append_right _ h)) (by decide) rfl (by decide +kernel) rfl hin rfl (by decide +kernel) rfl rfl dX8_init_150 ?_
  replace hv := vg_R (k := 0) (j := 20) (i := 13) hv (by omega) (by omega)
  rw [hQ]
  exact s_vretG C hA hE1 hE2 hag0 dX8_init_153 rfl

