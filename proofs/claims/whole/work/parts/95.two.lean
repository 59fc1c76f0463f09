theorem inlX7 : ∀ w ∈ wsX70, w ∈ wsL_law := fun _ h => List.mem_append_left _ (List.mem_append_left _ (List.mem_append_left _ (List.mem_append_left _ (List.mem_append_left _ (List.mem_append_left _ (List.mem_append_left _ (List.mem_append_left _ (List.mem_append_left _ (List.mem_append_right _ h)))))))))
theorem inlX8 : ∀ w ∈ wsX80, w ∈ wsL_law := fun _ h => List.mem_append_left _ (List.mem_append_left _ (List.mem_append_left _ (List.mem_append_left _ (List.mem_append_left _ (List.mem_append_left _ (List.mem_append_left _ (List.mem_append_left _ (List.mem_append_right _ h))))))))
/-! both worlds in one while they are made: the reference's cells stand from 62 on -/
def ih_sh2 : ih_Sh := (fun k => if k < 62 then ih_kX k else ih_kM (k - 62), fun k => if k < 62 then ih_lX k else ih_lM (k - 62), 76)
theorem ih_wl_sh {w : ih_Wd} {sh sh' : ih_Sh} {S : ih_Sg} {n : Nat} (h : ∀ k, k < n → sh.1 k = sh'.1 k ∧ sh.2.1 k = sh'.2.1 k) : ih_wl w (ih_shN sh n) S = ih_wl w (ih_shN sh' n) S := by
  unfold ih_wl
  refine List.map_congr_left (fun k hk => ?_)
  have hkn : k < n := List.mem_range.mp hk
  show (w.2.2 k, ih_ce w (sh.1 k) (sh.2.1 k) _ _ _) = (w.2.2 k, ih_ce w (sh'.1 k) (sh'.2.1 k) _ _ _)
  rw [(h k hkn).1, (h k hkn).2]
theorem s_shc {x : ih_Cx} {w : ih_Wd} {sh sh' : ih_Sh} {A : Nat → Prop} {Q : State → Prop} {nL cells slots pc n : Nat} {lv : List (Nat × Value)} {st : List Value} {S : ih_Sg} (h : ∀ k, k < n → sh.1 k = sh'.1 k ∧ sh.2.1 k = sh'.2.1 k) (kk : ih_Mw x w (ih_shN sh' n) A Q nL cells slots pc lv st S) : ih_Mw x w (ih_shN sh n) A Q nL cells slots pc lv st S := by
  intro H locs ls hP hD hS hl
  rw [ih_wl_sh h] at hP hD
  exact kk H locs ls hP hD hS hl
theorem ih_sh2_X : ∀ k, k < 62 → ih_shX.1 k = ih_sh2.1 k ∧ ih_shX.2.1 k = ih_sh2.2.1 k := fun k hk => ⟨(if_pos hk).symm, (if_pos hk).symm⟩
def ih_SM (S : ih_Sg) : ih_Sg := (ih_sR (ih_sR (ih_sR (ih_sR (ih_sR (ih_sI (ih_sI (ih_sR (ih_sR (ih_sR (ih_sR (ih_sR (ih_sR (ih_sR (ih_sR (ih_sI (ih_sI (ih_sI (ih_sI (ih_sI (ih_sI (ih_sI (ih_sI S (62 + 1) 0 (-1)) (62 + 1) 1 (-1)) (62 + 1) 2 (-1)) (62 + 1) 3 (-1)) (62 + 1) 4 (-1)) (62 + 1) 5 (-1)) (62 + 1) 6 (-1)) (62 + 1) 7 (-1)) (62 + 0) 2 (some (62 + 1))) (62 + 0) 3 (some (62 + 2))) (62 + 0) 4 (some (62 + 3))) (62 + 0) 6 (some (62 + 4))) (62 + 0) 8 (some (62 + 5))) (62 + 0) 9 (some (62 + 6))) (62 + 0) 10 (some (62 + 7))) (62 + 0) 11 (some (62 + 8))) (62 + 9) 0 (-1000000)) (62 + 9) 1 (-1000000)) (62 + 0) 12 (some (62 + 9))) (62 + 0) 13 (some (62 + 10))) (62 + 0) 14 (some (62 + 11))) (62 + 0) 19 (some (62 + 12))) (62 + 0) 20 (some (62 + 13)))
set_option maxHeartbeats 4000000 in
set_option maxRecDepth 100000 in
theorem c_X8_init2 (l : Launch) (w0 : ih_Wd) (S : ih_Sg) (hv : ih_vg S (63)) : ih_Cc l yX8_init wsX8_init 2 13 151450 w0 ih_sh2 (63) (76) ih_E0 [.ref (w0.2.2 62)] S (fun u => u.1 = ih_SM S) := by
  refine ih_bodyc rfl rfl (Nat.le_of_ble_eq_true rfl) rfl ?_
  intro x A hA C hin hEE
  obtain ⟨Q, hQ⟩ : ∃ Q, Q = ih_QG x w0 ih_sh2 (63) (76) 13 151450 A (fun u => u.1 = ih_SM S) := ⟨_, rfl⟩
  suffices HH : ∀ w : ih_Wd, w.1 = w0.1 → w.2.1 = w0.2.1 → (∀ kq, kq < 63 → w0.2.2 kq = w.2.2 kq) → ih_Ok x w A cX8_init 1 RX8 wsX8_init (ih_rmC 2 13 151450) none → ih_Mw x w (ih_shN ih_sh2 (63)) A Q 1 0 0 0 [(0, .ref (w.2.2 62))] [] S by
    have h0 := HH w0 rfl rfl (fun _ _ => rfl) C
    rw [hQ] at h0
    exact h0
  intro w hE1 hE2 hag0 C
  refine s_aload_n C 0 dX8_init_0 rfl ?_
  refine s_obj C (by decide +kernel) (by decide +kernel) (by decide +kernel) (by decide) (by decide) dX8_init_1 ?_
  refine s_aload_n C 0 dX8_init_4 rfl ?_
  refine s_bipush (v := nI 8) C dX8_init_5 (by decide) ?_
  refine s_newI (n := 63) (N := 8) C hv rfl rfl rfl (by decide) (by decide +kernel) (by decide) dX8_init_7 ?_
  intro w ew1 ew2 hag
  replace C := ih_Ok_w ew1 ew2 C
  replace hE1 := ew1.trans hE1
  replace hE2 := ew2.trans hE2
  replace hag0 := fun kq (hkq : kq < 63) => (hag0 kq hkq).trans (hag kq (by omega))
  rw [hag (62) (by omega)]
  replace hv := vg_up (m := 64) hv (by omega)
  refine s_dup C dX8_init_9 rfl ?_
  refine s_iconst (v := nI 0) C dX8_init_10 (by decide) ?_
  refine s_iconst (v := (-1)) C dX8_init_11 (by decide) ?_
  refine s_iastore C 8 (0) rfl rfl (by decide) (by decide) (ih_ltN (by omega)) rfl dX8_init_12 ?_
  replace hv := vg_I (k := 63) (j := 0) (v := -1) hv (by omega)
  refine s_dup C dX8_init_13 rfl ?_
  refine s_iconst (v := nI 1) C dX8_init_14 (by decide) ?_
  refine s_iconst (v := (-1)) C dX8_init_15 (by decide) ?_
  refine s_iastore C 8 (1) rfl rfl (by decide) (by decide) (ih_ltN (by omega)) rfl dX8_init_16 ?_
  replace hv := vg_I (k := 63) (j := 1) (v := -1) hv (by omega)
  refine s_dup C dX8_init_17 rfl ?_
  refine s_iconst (v := nI 2) C dX8_init_18 (by decide) ?_
  refine s_iconst (v := (-1)) C dX8_init_19 (by decide) ?_
  refine s_iastore C 8 (2) rfl rfl (by decide) (by decide) (ih_ltN (by omega)) rfl dX8_init_20 ?_
  replace hv := vg_I (k := 63) (j := 2) (v := -1) hv (by omega)
  refine s_dup C dX8_init_21 rfl ?_
  refine s_iconst (v := nI 3) C dX8_init_22 (by decide) ?_
  refine s_iconst (v := (-1)) C dX8_init_23 (by decide) ?_
  refine s_iastore C 8 (3) rfl rfl (by decide) (by decide) (ih_ltN (by omega)) rfl dX8_init_24 ?_
  replace hv := vg_I (k := 63) (j := 3) (v := -1) hv (by omega)
  refine s_dup C dX8_init_25 rfl ?_
  refine s_iconst (v := nI 4) C dX8_init_26 (by decide) ?_
  refine s_iconst (v := (-1)) C dX8_init_27 (by decide) ?_
  refine s_iastore C 8 (4) rfl rfl (by decide) (by decide) (ih_ltN (by omega)) rfl dX8_init_28 ?_
  replace hv := vg_I (k := 63) (j := 4) (v := -1) hv (by omega)
  refine s_dup C dX8_init_29 rfl ?_
  refine s_iconst (v := nI 5) C dX8_init_30 (by decide) ?_
  refine s_iconst (v := (-1)) C dX8_init_31 (by decide) ?_
  refine s_iastore C 8 (5) rfl rfl (by decide) (by decide) (ih_ltN (by omega)) rfl dX8_init_32 ?_
  replace hv := vg_I (k := 63) (j := 5) (v := -1) hv (by omega)
  refine s_dup C dX8_init_33 rfl ?_
  refine s_bipush (v := nI 6) C dX8_init_34 (by decide) ?_
  refine s_iconst (v := (-1)) C dX8_init_36 (by decide) ?_
  refine s_iastore C 8 (6) rfl rfl (by decide) (by decide) (ih_ltN (by omega)) rfl dX8_init_37 ?_
  replace hv := vg_I (k := 63) (j := 6) (v := -1) hv (by omega)
  refine s_dup C dX8_init_38 rfl ?_
  refine s_bipush (v := nI 7) C dX8_init_39 (by decide) ?_
  refine s_iconst (v := (-1)) C dX8_init_41 (by decide) ?_
  refine s_iastore C 8 (7) rfl rfl (by decide) (by decide) (ih_ltN (by omega)) rfl dX8_init_42 ?_
  replace hv := vg_I (k := 63) (j := 7) (v := -1) hv (by omega)
  refine s_putF (ty := .array .int) C 8 2 tyX8 tyX8_ok nmX8 (ih_ltN (by omega)) rfl (by decide) rfl (fun _ h => List.mem_cons_of_mem _ (List.mem_append_right _ h)) (by decide) rfl (by decide +kernel) rfl hin rfl (by decide +kernel) rfl rfl dX8_init_43 ?_
  replace hv := vg_R (k := 62) (j := 2) (i := 63) hv (by omega) (by omega)
  refine s_aload_n C 0 dX8_init_46 rfl ?_
  refine s_bipush (v := nI 8) C dX8_init_47 (by decide) ?_
  refine s_newI (n := 64) (N := 8) C hv rfl rfl rfl (by decide) (by decide +kernel) (by decide) dX8_init_49 ?_
  intro w ew1 ew2 hag
  replace C := ih_Ok_w ew1 ew2 C
  replace hE1 := ew1.trans hE1
  replace hE2 := ew2.trans hE2
  replace hag0 := fun kq (hkq : kq < 63) => (hag0 kq hkq).trans (hag kq (by omega))
  rw [hag (62) (by omega)]
  replace hv := vg_up (m := 65) hv (by omega)
  refine s_putF (ty := .array .int) C 8 3 tyX8 tyX8_ok nmX8 (ih_ltN (by omega)) rfl (by decide) rfl (fun _ h => List.mem_cons_of_mem _ (List.mem_append_right _ h)) (by decide) rfl (by decide +kernel) rfl hin rfl (by decide +kernel) rfl rfl dX8_init_51 ?_
  replace hv := vg_R (k := 62) (j := 3) (i := 64) hv (by omega) (by omega)
  refine s_aload_n C 0 dX8_init_54 rfl ?_
  refine s_sipush (v := nI 480) C dX8_init_55 (by decide) ?_
  refine s_newI (n := 65) (N := 480) C hv rfl rfl rfl (by decide) (by decide +kernel) (by decide) dX8_init_58 ?_
  intro w ew1 ew2 hag
  replace C := ih_Ok_w ew1 ew2 C
  replace hE1 := ew1.trans hE1
  replace hE2 := ew2.trans hE2
  replace hag0 := fun kq (hkq : kq < 63) => (hag0 kq hkq).trans (hag kq (by omega))
  rw [hag (62) (by omega)]
  replace hv := vg_up (m := 66) hv (by omega)
  refine s_putF (ty := .array .int) C 8 4 tyX8 tyX8_ok nmX8 (ih_ltN (by omega)) rfl (by decide) rfl (fun _ h => List.mem_cons_of_mem _ (List.mem_append_right _ h)) (by decide) rfl (by decide +kernel) rfl hin rfl (by decide +kernel) rfl rfl dX8_init_60 ?_
  replace hv := vg_R (k := 62) (j := 4) (i := 65) hv (by omega) (by omega)
  refine s_aload_n C 0 dX8_init_63 rfl ?_
  refine s_bipush (v := nI 84) C dX8_init_64 (by decide) ?_
  refine s_newI (n := 66) (N := 84) C hv rfl rfl rfl (by decide) (by decide +kernel) (by decide) dX8_init_66 ?_
  intro w ew1 ew2 hag
  replace C := ih_Ok_w ew1 ew2 C
  replace hE1 := ew1.trans hE1
  replace hE2 := ew2.trans hE2
  replace hag0 := fun kq (hkq : kq < 63) => (hag0 kq hkq).trans (hag kq (by omega))
  rw [hag (62) (by omega)]
  replace hv := vg_up (m := 67) hv (by omega)
  refine s_putF (ty := .array .int) C 8 6 tyX8 tyX8_ok nmX8 (ih_ltN (by omega)) rfl (by decide) rfl (fun _ h => List.mem_cons_of_mem _ (List.mem_append_right _ h)) (by decide) rfl (by decide +kernel) rfl hin rfl (by decide +kernel) rfl rfl dX8_init_68 ?_
  replace hv := vg_R (k := 62) (j := 6) (i := 66) hv (by omega) (by omega)
  refine s_aload_n C 0 dX8_init_71 rfl ?_
  refine s_bipush (v := nI 9) C dX8_init_72 (by decide) ?_
  refine s_newI (n := 67) (N := 9) C hv rfl rfl rfl (by decide) (by decide +kernel) (by decide) dX8_init_74 ?_
  intro w ew1 ew2 hag
  replace C := ih_Ok_w ew1 ew2 C
  replace hE1 := ew1.trans hE1
  replace hE2 := ew2.trans hE2
  replace hag0 := fun kq (hkq : kq < 63) => (hag0 kq hkq).trans (hag kq (by omega))
  rw [hag (62) (by omega)]
  replace hv := vg_up (m := 68) hv (by omega)
  refine s_putF (ty := .array .int) C 8 8 tyX8 tyX8_ok nmX8 (ih_ltN (by omega)) rfl (by decide) rfl (fun _ h => List.mem_cons_of_mem _ (List.mem_append_right _ h)) (by decide) rfl (by decide +kernel) rfl hin rfl (by decide +kernel) rfl rfl dX8_init_76 ?_
  replace hv := vg_R (k := 62) (j := 8) (i := 67) hv (by omega) (by omega)
  refine s_aload_n C 0 dX8_init_79 rfl ?_
  refine s_sipush (v := nI 6975) C dX8_init_80 (by decide) ?_
  refine s_newI (n := 68) (N := 6975) C hv rfl rfl rfl (by decide) (by decide +kernel) (by decide) dX8_init_83 ?_
  intro w ew1 ew2 hag
  replace C := ih_Ok_w ew1 ew2 C
  replace hE1 := ew1.trans hE1
  replace hE2 := ew2.trans hE2
  replace hag0 := fun kq (hkq : kq < 63) => (hag0 kq hkq).trans (hag kq (by omega))
  rw [hag (62) (by omega)]
  replace hv := vg_up (m := 69) hv (by omega)
  refine s_putF (ty := .array .int) C 8 9 tyX8 tyX8_ok nmX8 (ih_ltN (by omega)) rfl (by decide) rfl (fun _ h => List.mem_cons_of_mem _ (List.mem_append_right _ h)) (by decide) rfl (by decide +kernel) rfl hin rfl (by decide +kernel) rfl rfl dX8_init_85 ?_
  replace hv := vg_R (k := 62) (j := 9) (i := 68) hv (by omega) (by omega)
  refine s_aload_n C 0 dX8_init_88 rfl ?_
  refine s_ldc (v := nI 69750) C (by decide +kernel) dX8_init_89 ?_
  refine s_newI (n := 69) (N := 69750) C hv rfl rfl rfl (by decide) (by decide +kernel) (by decide) dX8_init_91 ?_
  intro w ew1 ew2 hag
  replace C := ih_Ok_w ew1 ew2 C
  replace hE1 := ew1.trans hE1
  replace hE2 := ew2.trans hE2
  replace hag0 := fun kq (hkq : kq < 63) => (hag0 kq hkq).trans (hag kq (by omega))
  rw [hag (62) (by omega)]
  replace hv := vg_up (m := 70) hv (by omega)
  refine s_putF (ty := .array .int) C 8 10 tyX8 tyX8_ok nmX8 (ih_ltN (by omega)) rfl (by decide) rfl (fun _ h => List.mem_cons_of_mem _ (List.mem_append_right _ h)) (by decide) rfl (by decide +kernel) rfl hin rfl (by decide +kernel) rfl rfl dX8_init_93 ?_
  replace hv := vg_R (k := 62) (j := 10) (i := 69) hv (by omega) (by omega)
  refine s_aload_n C 0 dX8_init_96 rfl ?_
  refine s_bipush (v := nI 9) C dX8_init_97 (by decide) ?_
  refine s_newI (n := 70) (N := 9) C hv rfl rfl rfl (by decide) (by decide +kernel) (by decide) dX8_init_99 ?_
  intro w ew1 ew2 hag
  replace C := ih_Ok_w ew1 ew2 C
  replace hE1 := ew1.trans hE1
  replace hE2 := ew2.trans hE2
  replace hag0 := fun kq (hkq : kq < 63) => (hag0 kq hkq).trans (hag kq (by omega))
  rw [hag (62) (by omega)]
  replace hv := vg_up (m := 71) hv (by omega)
  refine s_putF (ty := .array .int) C 8 11 tyX8 tyX8_ok nmX8 (ih_ltN (by omega)) rfl (by decide) rfl (fun _ h => List.mem_cons_of_mem _ (List.mem_append_right _ h)) (by decide) rfl (by decide +kernel) rfl hin rfl (by decide +kernel) rfl rfl dX8_init_101 ?_
  replace hv := vg_R (k := 62) (j := 11) (i := 70) hv (by omega) (by omega)
  refine s_aload_n C 0 dX8_init_104 rfl ?_
  refine s_iconst (v := nI 2) C dX8_init_105 (by decide) ?_
  refine s_newI (n := 71) (N := 2) C hv rfl rfl rfl (by decide) (by decide +kernel) (by decide) dX8_init_106 ?_
  intro w ew1 ew2 hag
  replace C := ih_Ok_w ew1 ew2 C
  replace hE1 := ew1.trans hE1
  replace hE2 := ew2.trans hE2
  replace hag0 := fun kq (hkq : kq < 63) => (hag0 kq hkq).trans (hag kq (by omega))
  rw [hag (62) (by omega)]
  replace hv := vg_up (m := 72) hv (by omega)
  refine s_dup C dX8_init_108 rfl ?_
  refine s_iconst (v := nI 0) C dX8_init_109 (by decide) ?_
  refine s_ldc (v := (-1000000)) C (by decide +kernel) dX8_init_110 ?_
  refine s_iastore C 2 (0) rfl rfl (by decide) (by decide) (ih_ltN (by omega)) rfl dX8_init_112 ?_
  replace hv := vg_I (k := 71) (j := 0) (v := -1000000) hv (by omega)
  refine s_dup C dX8_init_113 rfl ?_
  refine s_iconst (v := nI 1) C dX8_init_114 (by decide) ?_
  refine s_ldc (v := (-1000000)) C (by decide +kernel) dX8_init_115 ?_
  refine s_iastore C 2 (1) rfl rfl (by decide) (by decide) (ih_ltN (by omega)) rfl dX8_init_117 ?_
  replace hv := vg_I (k := 71) (j := 1) (v := -1000000) hv (by omega)
  refine s_putF (ty := .array .int) C 8 12 tyX8 tyX8_ok nmX8 (ih_ltN (by omega)) rfl (by decide) rfl (fun _ h => List.mem_cons_of_mem _ (List.mem_append_right _ h)) (by decide) rfl (by decide +kernel) rfl hin rfl (by decide +kernel) rfl rfl dX8_init_118 ?_
  replace hv := vg_R (k := 62) (j := 12) (i := 71) hv (by omega) (by omega)
  refine s_aload_n C 0 dX8_init_121 rfl ?_
  refine s_ldc (v := nI 37050) C (by decide +kernel) dX8_init_122 ?_
  refine s_newI (n := 72) (N := 37050) C hv rfl rfl rfl (by decide) (by decide +kernel) (by decide) dX8_init_124 ?_
  intro w ew1 ew2 hag
  replace C := ih_Ok_w ew1 ew2 C
  replace hE1 := ew1.trans hE1
  replace hE2 := ew2.trans hE2
  replace hag0 := fun kq (hkq : kq < 63) => (hag0 kq hkq).trans (hag kq (by omega))
  rw [hag (62) (by omega)]
  replace hv := vg_up (m := 73) hv (by omega)
  refine s_putF (ty := .array .int) C 8 13 tyX8 tyX8_ok nmX8 (ih_ltN (by omega)) rfl (by decide) rfl (fun _ h => List.mem_cons_of_mem _ (List.mem_append_right _ h)) (by decide) rfl (by decide +kernel) rfl hin rfl (by decide +kernel) rfl rfl dX8_init_126 ?_
  replace hv := vg_R (k := 62) (j := 13) (i := 72) hv (by omega) (by omega)
  refine s_aload_n C 0 dX8_init_129 rfl ?_
  refine s_ldc (v := nI 37050) C (by decide +kernel) dX8_init_130 ?_
  refine s_newI (n := 73) (N := 37050) C hv rfl rfl rfl (by decide) (by decide +kernel) (by decide) dX8_init_132 ?_
  intro w ew1 ew2 hag
  replace C := ih_Ok_w ew1 ew2 C
  replace hE1 := ew1.trans hE1
  replace hE2 := ew2.trans hE2
  replace hag0 := fun kq (hkq : kq < 63) => (hag0 kq hkq).trans (hag kq (by omega))
  rw [hag (62) (by omega)]
  replace hv := vg_up (m := 74) hv (by omega)
  refine s_putF (ty := .array .int) C 8 14 tyX8 tyX8_ok nmX8 (ih_ltN (by omega)) rfl (by decide) rfl (fun _ h => List.mem_cons_of_mem _ (List.mem_append_right _ h)) (by decide) rfl (by decide +kernel) rfl hin rfl (by decide +kernel) rfl rfl dX8_init_134 ?_
  replace hv := vg_R (k := 62) (j := 14) (i := 73) hv (by omega) (by omega)
  refine s_aload_n C 0 dX8_init_137 rfl ?_
  refine s_bipush (v := nI 9) C dX8_init_138 (by decide) ?_
  refine s_newI (n := 74) (N := 9) C hv rfl rfl rfl (by decide) (by decide +kernel) (by decide) dX8_init_140 ?_
  intro w ew1 ew2 hag
  replace C := ih_Ok_w ew1 ew2 C
  replace hE1 := ew1.trans hE1
  replace hE2 := ew2.trans hE2
  replace hag0 := fun kq (hkq : kq < 63) => (hag0 kq hkq).trans (hag kq (by omega))
  rw [hag (62) (by omega)]
  replace hv := vg_up (m := 75) hv (by omega)
  refine s_putF (ty := .array .int) C 8 19 tyX8 tyX8_ok nmX8 (ih_ltN (by omega)) rfl (by decide) rfl (fun _ h => List.mem_cons_of_mem _ (List.mem_append_right _ h)) (by decide) rfl (by decide +kernel) rfl hin rfl (by decide +kernel) rfl rfl dX8_init_142 ?_
  replace hv := vg_R (k := 62) (j := 19) (i := 74) hv (by omega) (by omega)
  refine s_aload_n C 0 dX8_init_145 rfl ?_
  refine s_bipush (v := nI 16) C dX8_init_146 (by decide) ?_
  refine s_newI (n := 75) (N := 16) C hv rfl rfl rfl (by decide) (by decide +kernel) (by decide) dX8_init_148 ?_
  intro w ew1 ew2 hag
  replace C := ih_Ok_w ew1 ew2 C
  replace hE1 := ew1.trans hE1
  replace hE2 := ew2.trans hE2
  replace hag0 := fun kq (hkq : kq < 63) => (hag0 kq hkq).trans (hag kq (by omega))
  rw [hag (62) (by omega)]
  replace hv := vg_up (m := 76) hv (by omega)
  refine s_putF (ty := .array .int) C 8 20 tyX8 tyX8_ok nmX8 (ih_ltN (by omega)) rfl (by decide) rfl (fun _ h => List.mem_cons_of_mem _ (List.mem_append_right _ h)) (by decide) rfl (by decide +kernel) rfl hin rfl (by decide +kernel) rfl rfl dX8_init_150 ?_
  replace hv := vg_R (k := 62) (j := 20) (i := 75) hv (by omega) (by omega)
  rw [hQ]
  exact s_vretG C hA hE1 hE2 hag0 dX8_init_153 rfl

/-! the two worlds apart -/
theorem ih_RX_lt {S V : ih_Sg} {T : ih_TT} (h : ih_RX S T) (h1 : ∀ k, k < 62 → V.1 k = S.1 k) (h2 : ∀ k, k < 62 → V.2.2 k = S.2.2 k) : ih_RX V T := by
  obtain ⟨g1, g2, g3, g4, g5, g6, g7, g8, g9, g10, g11⟩ := h
  refine ⟨fun k j i q => ?_, ?_, by rw [h1 0 (by omega)]; exact g3, by rw [h1 0 (by omega)]; exact g4, rx_s_c g5 (fun s hs => ⟨h1 _ (by omega), h1 _ (by omega)⟩) ⟨rfl, rfl, rfl⟩, rx_k_c g6 (fun s hs => ⟨h1 _ (by omega), h1 _ (by omega)⟩) rfl, ?_, ?_, ?_, ?_, rx_m_d g11 (by rw [h1 53 (by omega)]) (h1 55 (by omega)) rfl rfl rfl⟩
  · rw [h2 k (ih_pX_lt q).1]; exact g1 k j i q
  · unfold rx_p; rw [h2 46 (by omega), h2 53 (by omega)]; exact g2
  · unfold rx_o; rw [h1 46 (by omega), h1 47 (by omega)]; exact g7
  · unfold rx_t; rw [h1 54 (by omega)]; exact g8
  · unfold rx_a; rw [h1 60 (by omega), h1 61 (by omega)]; exact g9
  · unfold rx_b; rw [h1 44 (by omega), h1 45 (by omega)]; exact g10
theorem ih_RX_w8 {S : ih_Sg} {T : ih_TT} {B : Nat → Int32} (h : ih_RX S T) : ih_RX S (ih_w8 T B) :=
  ih_RX_oo h h.1 h.2.1 (fun _ _ _ => rfl) rfl h.2.2.2.2.2.2.1 (fun k _ _ h8 => by funext j; exact if_neg h8) rfl rfl rfl
def ih_wM (w : ih_Wd) : ih_Wd := (w.1, w.2.1, fun k => w.2.2 (62 + k))
def ih_sM (S : ih_Sg) : ih_Sg := (fun k => S.1 (62 + k), fun k => S.2.1 (62 + k), fun k j => (S.2.2 (62 + k) j).map (fun i => i - 62))
/-- no reference of the second half points into the first -/
def ih_hi (S : ih_Sg) : Prop := ∀ k j i, S.2.2 (62 + k) j = some i → 62 ≤ i
theorem ih_fs_map {ad : Nat → Nat} {kd : Nat} {I : Nat → Int32} {R : Nat → Option Nat} (h : ∀ j i, R j = some i → 62 ≤ i) : ih_fs ad kd I R = ih_fs (fun k => ad (62 + k)) kd I (fun j => (R j).map (fun i => i - 62)) := by
  unfold ih_fs
  refine List.map_congr_left (fun j _ => ?_)
  have e : ih_rv ad (R j) = ih_rv (fun k => ad (62 + k)) ((R j).map (fun i => i - 62)) := by
    unfold ih_rv
    cases hr : R j with
    | none => rfl
    | some i =>
      have hi := h j i hr
      show va_rf (some (ad i)) = va_rf (some (ad (62 + (i - 62))))
      rw [show 62 + (i - 62) = i by omega]
  rw [e]
theorem ih_wl_two {w : ih_Wd} {S : ih_Sg} (h : ih_hi S) : ih_wl w (ih_shN ih_sh2 76) S = ih_wl w ih_shX S ++ ih_wl (ih_wM w) ih_shM (ih_sM S) := by
  have hr : List.range 76 = List.range 62 ++ (List.range 14).map (fun k => 62 + k) := by decide
  have h1 : ih_wl w (ih_shN ih_sh2 76) S = (List.range 76).map (fun k => (w.2.2 k, ih_ce w (ih_sh2.1 k) (ih_sh2.2.1 k) (S.1 k) (S.2.1 k) (S.2.2 k))) := rfl
  rw [h1, hr, List.map_append, List.map_map]
  have e1 : (List.range 62).map (fun k => (w.2.2 k, ih_ce w (ih_sh2.1 k) (ih_sh2.2.1 k) (S.1 k) (S.2.1 k) (S.2.2 k))) = ih_wl w ih_shX S := by
    refine List.map_congr_left (fun k hk => ?_)
    have hkn : k < 62 := List.mem_range.mp hk
    rw [← (ih_sh2_X k hkn).1, ← (ih_sh2_X k hkn).2]
  have e2 : (List.range 14).map ((fun k => (w.2.2 k, ih_ce w (ih_sh2.1 k) (ih_sh2.2.1 k) (S.1 k) (S.2.1 k) (S.2.2 k))) ∘ (fun k => 62 + k)) = ih_wl (ih_wM w) ih_shM (ih_sM S) := by
    refine List.map_congr_left (fun k hk => ?_)
    show (w.2.2 (62 + k), ih_ce w (ih_sh2.1 (62 + k)) (ih_sh2.2.1 (62 + k)) (S.1 (62 + k)) (S.2.1 (62 + k)) (S.2.2 (62 + k))) = (w.2.2 (62 + k), ih_ce (ih_wM w) (ih_kM k) (ih_lM k) (S.1 (62 + k)) (S.2.1 (62 + k)) (fun j => (S.2.2 (62 + k) j).map (fun i => i - 62)))
    have k1 : ih_sh2.1 (62 + k) = ih_kM k := by
      show (if 62 + k < 62 then _ else ih_kM (62 + k - 62)) = _
      rw [if_neg (by omega), Nat.add_sub_cancel_left]
    have k2 : ih_sh2.2.1 (62 + k) = ih_lM k := by
      show (if 62 + k < 62 then _ else ih_lM (62 + k - 62)) = _
      rw [if_neg (by omega), Nat.add_sub_cancel_left]
    rw [k1, k2]
    refine congrArg (Prod.mk _) ?_
    by_cases hk0 : k = 0
    · subst hk0
      rw [show ih_kM 0 = 8 from rfl, ih_ce_o (by decide), ih_ce_o (by decide)]
      exact congrArg (fun l => Sum.inr (8, l)) (ih_fs_map (fun j i q => h 0 j i q))
    · have : ih_kM k = 9 := if_neg hk0
      rw [this, ih_ce_I rfl, ih_ce_I rfl]
      rfl
  rw [e1, e2]
theorem ih_u2_sh {α : Type} {f : Nat → Nat → α} {a b : Nat} {v : α} : (fun k => ih_u2 f (62 + a) b v (62 + k)) = ih_u2 (fun k => f (62 + k)) a b v := by
  funext k j
  unfold ih_u2
  by_cases h : k = a ∧ j = b
  · rw [if_pos h, if_pos (by omega)]
  · rw [if_neg h, if_neg (by omega)]
theorem ih_SM_1 {S : ih_Sg} (hv : ih_vg S 62) : (ih_sM (ih_SM S)).1 = ih_T0 := by
  have hz : (fun k => S.1 (62 + k)) = ih_S0.1 := by
    funext k
    rw [(hv.1 (62 + k) (by omega)).1]; rfl
  show (fun k => ih_u2 (ih_u2 (ih_u2 (ih_u2 (ih_u2 (ih_u2 (ih_u2 (ih_u2 (ih_u2 (ih_u2 S.1 (62 + 1) 0 (-1)) (62 + 1) 1 (-1)) (62 + 1) 2 (-1)) (62 + 1) 3 (-1)) (62 + 1) 4 (-1)) (62 + 1) 5 (-1)) (62 + 1) 6 (-1)) (62 + 1) 7 (-1)) (62 + 9) 0 (-1000000)) (62 + 9) 1 (-1000000) (62 + k)) = ih_u2 (ih_u2 (ih_u2 (ih_u2 (ih_u2 (ih_u2 (ih_u2 (ih_u2 (ih_u2 (ih_u2 ih_S0.1 1 0 (-1)) 1 1 (-1)) 1 2 (-1)) 1 3 (-1)) 1 4 (-1)) 1 5 (-1)) 1 6 (-1)) 1 7 (-1)) 9 0 (-1000000)) 9 1 (-1000000)
  rw [ih_u2_sh, ih_u2_sh, ih_u2_sh, ih_u2_sh, ih_u2_sh, ih_u2_sh, ih_u2_sh, ih_u2_sh, ih_u2_sh, ih_u2_sh, hz]
theorem ih_SM_lt {S : ih_Sg} {k : Nat} (hk : k < 62) : (ih_SM S).1 k = S.1 k ∧ (ih_SM S).2.2 k = S.2.2 k := by
  unfold ih_SM
  refine ⟨?_, ?_⟩
  · show ih_u2 (ih_u2 (ih_u2 (ih_u2 (ih_u2 (ih_u2 (ih_u2 (ih_u2 (ih_u2 (ih_u2 S.1 (62 + 1) 0 (-1)) (62 + 1) 1 (-1)) (62 + 1) 2 (-1)) (62 + 1) 3 (-1)) (62 + 1) 4 (-1)) (62 + 1) 5 (-1)) (62 + 1) 6 (-1)) (62 + 1) 7 (-1)) (62 + 9) 0 (-1000000)) (62 + 9) 1 (-1000000) k = S.1 k
    rw [ih_u2_row (by omega), ih_u2_row (by omega), ih_u2_row (by omega), ih_u2_row (by omega), ih_u2_row (by omega), ih_u2_row (by omega), ih_u2_row (by omega), ih_u2_row (by omega), ih_u2_row (by omega), ih_u2_row (by omega)]
  · show ih_u2 (ih_u2 (ih_u2 (ih_u2 (ih_u2 (ih_u2 (ih_u2 (ih_u2 (ih_u2 (ih_u2 (ih_u2 (ih_u2 (ih_u2 S.2.2 (62 + 0) 2 (some (62 + 1))) (62 + 0) 3 (some (62 + 2))) (62 + 0) 4 (some (62 + 3))) (62 + 0) 6 (some (62 + 4))) (62 + 0) 8 (some (62 + 5))) (62 + 0) 9 (some (62 + 6))) (62 + 0) 10 (some (62 + 7))) (62 + 0) 11 (some (62 + 8))) (62 + 0) 12 (some (62 + 9))) (62 + 0) 13 (some (62 + 10))) (62 + 0) 14 (some (62 + 11))) (62 + 0) 19 (some (62 + 12))) (62 + 0) 20 (some (62 + 13)) k = S.2.2 k
    rw [ih_u2_row (by omega), ih_u2_row (by omega), ih_u2_row (by omega), ih_u2_row (by omega), ih_u2_row (by omega), ih_u2_row (by omega), ih_u2_row (by omega), ih_u2_row (by omega), ih_u2_row (by omega), ih_u2_row (by omega), ih_u2_row (by omega), ih_u2_row (by omega), ih_u2_row (by omega)]
theorem ih_SM_2 {S : ih_Sg} (hv : ih_vg S 62) : (fun k => (ih_SM S).2.2 (62 + k)) = ih_u2 (ih_u2 (ih_u2 (ih_u2 (ih_u2 (ih_u2 (ih_u2 (ih_u2 (ih_u2 (ih_u2 (ih_u2 (ih_u2 (ih_u2 (fun _ _ => none) 0 2 (some (62 + 1))) 0 3 (some (62 + 2))) 0 4 (some (62 + 3))) 0 6 (some (62 + 4))) 0 8 (some (62 + 5))) 0 9 (some (62 + 6))) 0 10 (some (62 + 7))) 0 11 (some (62 + 8))) 0 12 (some (62 + 9))) 0 13 (some (62 + 10))) 0 14 (some (62 + 11))) 0 19 (some (62 + 12))) 0 20 (some (62 + 13)) := by
  have hz : (fun k => S.2.2 (62 + k)) = (fun _ _ => none) := by
    funext k
    rw [(hv.1 (62 + k) (by omega)).2.2]
  show (fun k => ih_u2 (ih_u2 (ih_u2 (ih_u2 (ih_u2 (ih_u2 (ih_u2 (ih_u2 (ih_u2 (ih_u2 (ih_u2 (ih_u2 (ih_u2 S.2.2 (62 + 0) 2 (some (62 + 1))) (62 + 0) 3 (some (62 + 2))) (62 + 0) 4 (some (62 + 3))) (62 + 0) 6 (some (62 + 4))) (62 + 0) 8 (some (62 + 5))) (62 + 0) 9 (some (62 + 6))) (62 + 0) 10 (some (62 + 7))) (62 + 0) 11 (some (62 + 8))) (62 + 0) 12 (some (62 + 9))) (62 + 0) 13 (some (62 + 10))) (62 + 0) 14 (some (62 + 11))) (62 + 0) 19 (some (62 + 12))) (62 + 0) 20 (some (62 + 13)) (62 + k)) = _
  rw [ih_u2_sh, ih_u2_sh, ih_u2_sh, ih_u2_sh, ih_u2_sh, ih_u2_sh, ih_u2_sh, ih_u2_sh, ih_u2_sh, ih_u2_sh, ih_u2_sh, ih_u2_sh, ih_u2_sh, hz]
theorem hi_u {f : Nat → Nat → Option Nat} {a b c : Nat} (h : ∀ k j i, f k j = some i → 62 ≤ i) (hc : 62 ≤ c) : ∀ k j i, ih_u2 f a b (some c) k j = some i → 62 ≤ i := by
  intro k j i q
  unfold ih_u2 at q
  split at q
  · cases q; exact hc
  · exact h k j i q
theorem ih_SM_hi {S : ih_Sg} (hv : ih_vg S 62) : ih_hi (ih_SM S) := by
  intro k j i q
  have e := congrFun (congrFun (ih_SM_2 hv) k) j
  rw [show (ih_SM S).2.2 (62 + k) j = some i from q] at e
  exact (hi_u (hi_u (hi_u (hi_u (hi_u (hi_u (hi_u (hi_u (hi_u (hi_u (hi_u (hi_u (hi_u (fun _ _ _ h => by cases h) (by decide)) (by decide)) (by decide)) (by decide)) (by decide)) (by decide)) (by decide)) (by decide)) (by decide)) (by decide)) (by decide)) (by decide)) (by decide)) k j i e.symm
theorem ih_RM_0 {S : ih_Sg} (hv : ih_vg S 62) : ih_RM (ih_sM (ih_SM S)) ih_T0 := by
  refine ⟨fun k j i q => ?_, fun k j _ => by rw [ih_SM_1 hv]⟩
  have e := congrFun (congrFun (ih_SM_2 hv) k) j
  show ((ih_SM S).2.2 (62 + k) j).map (fun i => i - 62) = some i
  rw [show (ih_SM S).2.2 (62 + k) j = _ from e]
  unfold ih_pM at q
  by_cases hk : k = 0
  · subst hk
    rw [if_pos rfl] at q
    have hj : j = 2 ∨ j = 3 ∨ j = 4 ∨ j = 6 ∨ j = 8 ∨ j = 9 ∨ j = 10 ∨ j = 11 ∨ j = 12 ∨ j = 13 ∨ j = 14 ∨ j = 19 ∨ j = 20 := by
      by_cases hj : j = 2 ∨ j = 3 ∨ j = 4 ∨ j = 6 ∨ j = 8 ∨ j = 9 ∨ j = 10 ∨ j = 11 ∨ j = 12 ∨ j = 13 ∨ j = 14 ∨ j = 19 ∨ j = 20
      · exact hj
      · exfalso
        rw [if_neg (by omega), if_neg (by omega), if_neg (by omega), if_neg (by omega), if_neg (by omega), if_neg (by omega), if_neg (by omega), if_neg (by omega), if_neg (by omega), if_neg (by omega), if_neg (by omega), if_neg (by omega), if_neg (by omega)] at q
        cases q
    rcases hj with rfl | rfl | rfl | rfl | rfl | rfl | rfl | rfl | rfl | rfl | rfl | rfl | rfl <;> (cases q; rfl)
  · rw [if_neg hk] at q; cases q
theorem ih_Inv_0 : ih_Inv ih_T0 := by
  have z : ∀ k j, k ≠ 1 → k ≠ 9 → ih_T0 k j = nI 0 := fun k j h1 h9 => ih_T0_z h1 h9
  have hct : ih_ct ih_T0 = 0 := by unfold ih_ct; rw [z 0 5 (by decide) (by decide), ih_n_nI (by decide)]
  have hpl : ih_pl ih_T0 = 0 := by unfold ih_pl; rw [z 0 7 (by decide) (by decide), ih_n_nI (by decide)]
  have htd : ih_td ih_T0 = 0 := by unfold ih_td; rw [z 0 21 (by decide) (by decide), ih_n_nI (by decide)]
  refine ⟨fun s hs => ?_, ⟨by rw [hct]; exact z 0 5 (by decide) (by decide), by rw [hct]; decide, fun k hk => by rw [hct] at hk; omega⟩, ⟨by rw [hpl]; exact z 0 7 (by decide) (by decide), by rw [hpl]; decide, fun j hj => by rw [hpl] at hj; omega⟩, fun t ht => Or.inl (ih_T0_9 t ht), by rw [htd]; exact z 0 21 (by decide) (by decide), by rw [htd]; decide⟩
  have hm : ih_mn ih_T0 s = 0 := by unfold ih_mn; rw [z 2 s (by decide) (by decide), ih_n_nI (by decide)]
  rw [hm, ih_T0_1 s hs, z 2 s (by decide) (by decide)]
  exact ⟨Or.inl rfl, rfl, by decide⟩
