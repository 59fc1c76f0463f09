set_option maxHeartbeats 4000000 in
set_option maxRecDepth 100000 in
theorem c_X7_init (l : Launch) (w0 : ih_Wd) : ih_Cc l yX7_init wsX7_init 12 61 2746 w0 ih_shX 1 62 ih_E1 [.ref (w0.2.2 0)] ih_S0 (fun u => ih_RX u.1 ih_T0 ∧ ih_vg u.1 62) := by
  refine ih_bodyc rfl rfl (Nat.le_of_ble_eq_true rfl) rfl ?_
  intro x A hA C hin hEE
  obtain ⟨Q, hQ⟩ : ∃ Q, Q = ih_QG x w0 ih_shX 1 62 61 2746 A (fun u => ih_RX u.1 ih_T0 ∧ ih_vg u.1 62) := ⟨_, rfl⟩
  have hx76 : ∀ w : ih_Wd, w.1 = w0.1 → w.2.1 = w0.2.1 → (∀ kq, kq < 1 → w0.2.2 kq = w.2.2 kq) → ih_Ok x w A cX7_init 2 RX7 wsX7_init (ih_rmC 12 61 2746) none → ih_vg (ih_Sb 12) 43 → ih_Mw x w (ih_shN ih_shX 43) A Q 2 42 628 76 [(0, .ref (w.2.2 0))] [] (ih_Sb 12) := by
    intro w hE1 hE2 hag0 C hv
    refine s_aload_n C 0 dX7_init_76 rfl ?_
    refine s_iconst (v := nI 0) C dX7_init_77 (by decide) ?_
    refine s_putI (ty := .int) C 7 2 tyX7 tyX7_ok nmX7 (ih_ltN (by omega)) rfl (by decide) rfl (fun _ h => List.mem_cons_of_mem _ (List.mem_append_left _ (List.mem_append_left _ (List.mem_append_left _ (List.mem_append_left _ (List.mem_append_left _ (List.mem_append_left _ (List.mem_append_left _ (List.mem_append_right _ h))))))))) (by decide) rfl (by decide +kernel) rfl (by decide +kernel) rfl rfl dX7_init_78 ?_
    replace hv := vg_I (k := 0) (j := 2) (v := nI (0)) hv (by omega)
    refine s_aload_n C 0 dX7_init_81 rfl ?_
    refine s_newO (n := 43) (ci := 1) (N := 2) C hv rfl (by decide) rfl (fun _ h => List.mem_cons_of_mem _ (List.mem_append_left _ (List.mem_append_left _ (List.mem_append_left _ (List.mem_append_left _ (List.mem_append_right _ h)))))) tyX1 tyX1_ok df_X1 (by decide +kernel) (by decide +kernel) (by decide +kernel) (by decide) dX7_init_82 ?_
    intro w ew1 ew2 hag
    replace C := ih_Ok_w ew1 ew2 C
    replace hE1 := ew1.trans hE1
    replace hE2 := ew2.trans hE2
    replace hag0 := fun kq (hkq : kq < 1) => (hag0 kq hkq).trans (hag kq (by omega))
    rw [hag (0) (by omega)]
    replace hv := vg_up (m := 44) hv (by omega)
    refine s_dup C dX7_init_85 rfl ?_
    refine s_callI 0 C (c_X1_init _ w _ hv) ih_E0_ok trivial gX7_init_X1_init rfl (by decide +kernel) (by decide +kernel) (by decide +kernel) rfl (by decide +kernel) (by decide) (by decide) rfl rfl (Nat.le_of_ble_eq_true rfl) dX7_init_86 ?_
    intro w S2 ew1 ew2 hag hpost
    replace C := ih_Ok_w ew1 ew2 C
    replace hE1 := ew1.trans hE1
    replace hE2 := ew2.trans hE2
    replace hag0 := fun kq (hkq : kq < 1) => (hag0 kq hkq).trans (hag kq (by omega))
    rw [hag (0) (by omega), hag (43) (by omega)]
    obtain ⟨hBT, hv⟩ := hpost
    replace hBT : ih_BT _ S2 24 0 := hBT
    have hp3 : S2.2.2 0 1 = some 18 := by rw [hBT.1]; exact ih_Sb_0 12 (by decide)
    refine s_putF (ty := .object "InningsHouse$Bases") C 7 3 tyX7 tyX7_ok nmX7 (ih_ltN (by omega)) rfl (by decide) rfl (fun _ h => List.mem_cons_of_mem _ (List.mem_append_left _ (List.mem_append_left _ (List.mem_append_left _ (List.mem_append_left _ (List.mem_append_left _ (List.mem_append_left _ (List.mem_append_left _ (List.mem_append_right _ h))))))))) (by decide) rfl (by decide +kernel) rfl hin rfl (by decide +kernel) rfl rfl dX7_init_89 ?_
    replace hv := vg_R (k := 0) (j := 3) (i := 43) hv (by omega) (by omega)
    refine s_aload_n C 0 dX7_init_92 rfl ?_
    refine s_newO (n := 46) (ci := 2) (N := 9) C hv rfl (by decide) rfl (fun _ h => List.mem_cons_of_mem _ (List.mem_append_left _ (List.mem_append_left _ (List.mem_append_left _ (List.mem_append_right _ h))))) tyX2 tyX2_ok df_X2 (by decide +kernel) (by decide +kernel) (by decide +kernel) (by decide) dX7_init_93 ?_
    intro w ew1 ew2 hag
    replace C := ih_Ok_w ew1 ew2 C
    replace hE1 := ew1.trans hE1
    replace hE2 := ew2.trans hE2
    replace hag0 := fun kq (hkq : kq < 1) => (hag0 kq hkq).trans (hag kq (by omega))
    rw [hag (0) (by omega)]
    replace hv := vg_up (m := 47) hv (by omega)
    refine s_dup C dX7_init_96 rfl ?_
    refine s_aload_n C 0 dX7_init_97 rfl ?_
    refine s_getR C 7 3 rfl (ih_ltN (by omega)) rfl (by decide) rfl (fun _ h => List.mem_cons_of_mem _ (List.mem_append_left _ (List.mem_append_left _ (List.mem_append_left _ (List.mem_append_left _ (List.mem_append_left _ (List.mem_append_left _ (List.mem_append_left _ (List.mem_append_right _ h))))))))) (by decide) rfl (by decide +kernel) dX7_init_98 ?_
    refine s_aload_n C 0 dX7_init_101 rfl ?_
    refine s_getR C 7 1 hp3 (ih_ltN (by omega)) rfl (by decide) rfl (fun _ h => List.mem_cons_of_mem _ (List.mem_append_left _ (List.mem_append_left _ (List.mem_append_left _ (List.mem_append_left _ (List.mem_append_left _ (List.mem_append_left _ (List.mem_append_left _ (List.mem_append_right _ h))))))))) (by decide) rfl (by decide +kernel) dX7_init_102 ?_
    refine s_callI 2 C (c_X2_init _ w _ hv) ih_E0_ok trivial gX7_init_X2_init rfl (by decide +kernel) (by decide +kernel) (by decide +kernel) rfl (by decide +kernel) (by decide) (by decide) rfl rfl (Nat.le_of_ble_eq_true rfl) dX7_init_105 ?_
    intro w S2 ew1 ew2 hag hpost
    replace C := ih_Ok_w ew1 ew2 C
    replace hE1 := ew1.trans hE1
    replace hE2 := ew2.trans hE2
    replace hag0 := fun kq (hkq : kq < 1) => (hag0 kq hkq).trans (hag kq (by omega))
    rw [hag (0) (by omega), hag (46) (by omega)]
    replace hpost : S2 = _ := hpost
    subst hpost
    replace hv := vg_R (k := 46) (j := 1) (i := 18) (vg_R (k := 46) (j := 0) (i := 43) (vg_R (k := 46) (j := 8) (i := 52) (vg_R (k := 46) (j := 7) (i := 51) (vg_R (k := 46) (j := 6) (i := 50) (vg_R (k := 46) (j := 5) (i := 49) (vg_R (k := 46) (j := 4) (i := 48) (vg_R (k := 46) (j := 2) (i := 47) (vg_up (m := 53) hv (by omega)) (by omega) (by omega)) (by omega) (by omega)) (by omega) (by omega)) (by omega) (by omega)) (by omega) (by omega)) (by omega) (by omega)) (by omega) (by omega)) (by omega) (by omega)
    refine s_putF (ty := .object "InningsHouse$Lineup") C 7 4 tyX7 tyX7_ok nmX7 (ih_ltN (by omega)) rfl (by decide) rfl (fun _ h => List.mem_cons_of_mem _ (List.mem_append_left _ (List.mem_append_left _ (List.mem_append_left _ (List.mem_append_left _ (List.mem_append_left _ (List.mem_append_left _ (List.mem_append_left _ (List.mem_append_right _ h))))))))) (by decide) rfl (by decide +kernel) rfl hin rfl (by decide +kernel) rfl rfl dX7_init_108 ?_
    replace hv := vg_R (k := 0) (j := 4) (i := 46) hv (by omega) (by omega)
    refine s_aload_n C 0 dX7_init_111 rfl ?_
    refine s_newO (n := 53) (ci := 4) (N := 8) C hv rfl (by decide) rfl (fun _ h => List.mem_cons_of_mem _ (List.mem_append_left _ (List.mem_append_left _ (List.mem_append_right _ h)))) tyX4 tyX4_ok df_X4 (by decide +kernel) (by decide +kernel) (by decide +kernel) (by decide) dX7_init_112 ?_
    intro w ew1 ew2 hag
    replace C := ih_Ok_w ew1 ew2 C
    replace hE1 := ew1.trans hE1
    replace hE2 := ew2.trans hE2
    replace hag0 := fun kq (hkq : kq < 1) => (hag0 kq hkq).trans (hag kq (by omega))
    rw [hag (0) (by omega)]
    replace hv := vg_up (m := 54) hv (by omega)
    refine s_dup C dX7_init_115 rfl ?_
    refine s_aload_n C 0 dX7_init_116 rfl ?_
    refine s_getR C 7 3 rfl (ih_ltN (by omega)) rfl (by decide) rfl (fun _ h => List.mem_cons_of_mem _ (List.mem_append_left _ (List.mem_append_left _ (List.mem_append_left _ (List.mem_append_left _ (List.mem_append_left _ (List.mem_append_left _ (List.mem_append_left _ (List.mem_append_right _ h))))))))) (by decide) rfl (by decide +kernel) dX7_init_117 ?_
    refine s_aload_n C 0 dX7_init_120 rfl ?_
    refine s_getR C 7 1 hp3 (ih_ltN (by omega)) rfl (by decide) rfl (fun _ h => List.mem_cons_of_mem _ (List.mem_append_left _ (List.mem_append_left _ (List.mem_append_left _ (List.mem_append_left _ (List.mem_append_left _ (List.mem_append_left _ (List.mem_append_left _ (List.mem_append_right _ h))))))))) (by decide) rfl (by decide +kernel) dX7_init_121 ?_
    refine s_callI 2 C (c_X4_init _ w _ hv) ih_E0_ok trivial gX7_init_X4_init rfl (by decide +kernel) (by decide +kernel) (by decide +kernel) rfl (by decide +kernel) (by decide) (by decide) rfl rfl (Nat.le_of_ble_eq_true rfl) dX7_init_124 ?_
    intro w S2 ew1 ew2 hag hpost
    replace C := ih_Ok_w ew1 ew2 C
    replace hE1 := ew1.trans hE1
    replace hE2 := ew2.trans hE2
    replace hag0 := fun kq (hkq : kq < 1) => (hag0 kq hkq).trans (hag kq (by omega))
    rw [hag (0) (by omega), hag (53) (by omega)]
    obtain ⟨⟨V4, hT4, hS4⟩, hv⟩ := hpost
    replace hS4 : S2 = _ := hS4
    subst hS4
    replace hv : ih_vg (ih_sI V4 53 4 (nI 0)) 58 := hv
    refine s_putF (ty := .object "InningsHouse$Match") C 7 5 tyX7 tyX7_ok nmX7 (ih_ltN (by omega)) rfl (by decide) rfl (fun _ h => List.mem_cons_of_mem _ (List.mem_append_left _ (List.mem_append_left _ (List.mem_append_left _ (List.mem_append_left _ (List.mem_append_left _ (List.mem_append_left _ (List.mem_append_left _ (List.mem_append_right _ h))))))))) (by decide) rfl (by decide +kernel) rfl hin rfl (by decide +kernel) rfl rfl dX7_init_127 ?_
    replace hv := vg_R (k := 0) (j := 5) (i := 53) hv (by omega) (by omega)
    refine s_aload_n C 0 dX7_init_130 rfl ?_
    refine s_newO (n := 58) (ci := 3) (N := 6) C hv rfl (by decide) rfl (fun _ h => List.mem_cons_of_mem _ (List.mem_append_left _ (List.mem_append_right _ h))) tyX3 tyX3_ok df_X3 (by decide +kernel) (by decide +kernel) (by decide +kernel) (by decide) dX7_init_131 ?_
    intro w ew1 ew2 hag
    replace C := ih_Ok_w ew1 ew2 C
    replace hE1 := ew1.trans hE1
    replace hE2 := ew2.trans hE2
    replace hag0 := fun kq (hkq : kq < 1) => (hag0 kq hkq).trans (hag kq (by omega))
    rw [hag (0) (by omega)]
    replace hv := vg_up (m := 59) hv (by omega)
    refine s_dup C dX7_init_134 rfl ?_
    refine s_aload_n C 0 dX7_init_135 rfl ?_
    refine s_getR C 7 3 (by show V4.2.2 0 3 = some 43; rw [hT4.1]; rfl) (ih_ltN (by omega)) rfl (by decide) rfl (fun _ h => List.mem_cons_of_mem _ (List.mem_append_left _ (List.mem_append_left _ (List.mem_append_left _ (List.mem_append_left _ (List.mem_append_left _ (List.mem_append_left _ (List.mem_append_left _ (List.mem_append_right _ h))))))))) (by decide) rfl (by decide +kernel) dX7_init_136 ?_
    refine s_callI 1 C (c_X3_init _ w _ hv) ih_E0_ok trivial gX7_init_X3_init rfl (by decide +kernel) (by decide +kernel) (by decide +kernel) rfl (by decide +kernel) (by decide) (by decide) rfl rfl (Nat.le_of_ble_eq_true rfl) dX7_init_139 ?_
    intro w S2 ew1 ew2 hag hpost
    replace C := ih_Ok_w ew1 ew2 C
    replace hE1 := ew1.trans hE1
    replace hE2 := ew2.trans hE2
    replace hag0 := fun kq (hkq : kq < 1) => (hag0 kq hkq).trans (hag kq (by omega))
    rw [hag (0) (by omega), hag (58) (by omega)]
    replace hpost : S2 = _ := hpost
    subst hpost
    replace hv := vg_R (k := 58) (j := 0) (i := 43) (vg_R (k := 58) (j := 1) (i := 59) (vg_up (m := 60) hv (by omega)) (by omega) (by omega)) (by omega) (by omega)
    refine s_putF (ty := .object "InningsHouse$LogReader") C 7 6 tyX7 tyX7_ok nmX7 (ih_ltN (by omega)) rfl (by decide) rfl (fun _ h => List.mem_cons_of_mem _ (List.mem_append_left _ (List.mem_append_left _ (List.mem_append_left _ (List.mem_append_left _ (List.mem_append_left _ (List.mem_append_left _ (List.mem_append_left _ (List.mem_append_right _ h))))))))) (by decide) rfl (by decide +kernel) rfl hin rfl (by decide +kernel) rfl rfl dX7_init_142 ?_
    replace hv := vg_R (k := 0) (j := 6) (i := 58) hv (by omega) (by omega)
    refine s_aload_n C 0 dX7_init_145 rfl ?_
    refine s_newO (n := 60) (ci := 0) (N := 2) C hv rfl (by decide) rfl (fun _ h => List.mem_cons_of_mem _ (List.mem_append_right _ h)) tyX0 tyX0_ok df_X0 (by decide +kernel) (by decide +kernel) (by decide +kernel) (by decide) dX7_init_146 ?_
    intro w ew1 ew2 hag
    replace C := ih_Ok_w ew1 ew2 C
    replace hE1 := ew1.trans hE1
    replace hE2 := ew2.trans hE2
    replace hag0 := fun kq (hkq : kq < 1) => (hag0 kq hkq).trans (hag kq (by omega))
    rw [hag (0) (by omega)]
    replace hv := vg_up (m := 61) hv (by omega)
    refine s_dup C dX7_init_149 rfl ?_
    refine s_callIN 0 C (c_X0_init _ w _ hv) ih_E0_ok trivial gX7_init_X0_init_n61 rfl (by decide +kernel) C.2.1.2.2.2.1 (by decide +kernel) rfl (by decide +kernel) (by decide) (by decide) rfl rfl (Nat.le_of_ble_eq_true rfl) dX7_init_150 ?_
    intro w S2 ew1 ew2 hag hpost
    replace C := ih_Ok_w ew1 ew2 C
    replace hE1 := ew1.trans hE1
    replace hE2 := ew2.trans hE2
    replace hag0 := fun kq (hkq : kq < 1) => (hag0 kq hkq).trans (hag kq (by omega))
    rw [hag (0) (by omega), hag (60) (by omega)]
    replace hpost : S2 = _ := hpost
    subst hpost
    replace hv := vg_R (k := 60) (j := 0) (i := 61) (vg_up (m := 62) hv (by omega)) (by omega) (by omega)
    refine s_putF (ty := .object "InningsHouse$Asks") C 7 7 tyX7 tyX7_ok nmX7 (ih_ltN (by omega)) rfl (by decide) rfl (fun _ h => List.mem_cons_of_mem _ (List.mem_append_left _ (List.mem_append_left _ (List.mem_append_left _ (List.mem_append_left _ (List.mem_append_left _ (List.mem_append_left _ (List.mem_append_left _ (List.mem_append_right _ h))))))))) (by decide) rfl (by decide +kernel) rfl hin rfl (by decide +kernel) rfl rfl dX7_init_153 ?_
    replace hv := vg_R (k := 0) (j := 7) (i := 60) hv (by omega) (by omega)
    refine s_aload_n C 0 dX7_init_156 rfl ?_
    refine s_iconst (v := nI 0) C dX7_init_157 (by decide) ?_
    refine s_putI (ty := .int) C 7 8 tyX7 tyX7_ok nmX7 (ih_ltN (by omega)) rfl (by decide) rfl (fun _ h => List.mem_cons_of_mem _ (List.mem_append_left _ (List.mem_append_left _ (List.mem_append_left _ (List.mem_append_left _ (List.mem_append_left _ (List.mem_append_left _ (List.mem_append_left _ (List.mem_append_right _ h))))))))) (by decide) rfl (by decide +kernel) rfl (by decide +kernel) rfl rfl dX7_init_158 ?_
    replace hv := vg_I (k := 0) (j := 8) (v := nI (0)) hv (by omega)
    rw [hQ]
    exact s_vretG C hA hE1 hE2 hag0 dX7_init_161 ⟨ih_RX_0 hBT hT4, hv⟩
  have loop51 : ∀ fu k : Nat, k + fu = 12 → ∀ w : ih_Wd, w.1 = w0.1 → w.2.1 = w0.2.1 → (∀ kq, kq < 1 → w0.2.2 kq = w.2.2 kq) → ih_Ok x w A cX7_init 2 RX7 wsX7_init (ih_rmC 12 61 2746) none → ih_vg (ih_Sb k) (19 + 2 * k) → ih_Mw x w (ih_shN ih_shX (19 + 2 * k)) A Q 2 (18 + 2 * k) (532 + 8 * k) 51 [(0, .ref (w.2.2 0)), (1, .int (nI k))] [] (ih_Sb k) := by
    intro fu
    induction fu with
    | zero =>
      intro k hke w hE1 hE2 hag0 C hv
      obtain rfl : k = 12 := by omega
      refine s_iload_n C 1 dX7_init_51 rfl ?_
      refine s_bipush (v := nI 12) C dX7_init_52 (by decide) ?_
      refine s_icmp_geN 76 C dX7_init_54 (by decide) (by omega) (by omega) (fun h54 => ?_) (fun h54 => ?_)
      · refine s_perm [0] rfl ?_
        exact hx76 w hE1 hE2 hag0 C hv
      · exfalso; omega
    | succ fu ih_51 =>
      intro k hke w hE1 hE2 hag0 C hv
      have hk12 : k < 12 := by omega
      refine s_iload_n C 1 dX7_init_51 rfl ?_
      refine s_bipush (v := nI 12) C dX7_init_52 (by decide) ?_
      refine s_icmp_geN 76 C dX7_init_54 (by decide) (by omega) (by omega) (fun h54 => ?_) (fun h54 => ?_)
      · exfalso; omega
      · refine s_aload_n C 0 dX7_init_57 rfl ?_
        refine s_getR C 7 1 (ih_Sb_0 k (by omega)) (ih_ltN (by omega)) rfl (by decide) rfl (fun _ h => List.mem_cons_of_mem _ (List.mem_append_left _ (List.mem_append_left _ (List.mem_append_left _ (List.mem_append_left _ (List.mem_append_left _ (List.mem_append_left _ (List.mem_append_left _ (List.mem_append_right _ h))))))))) (by decide) rfl (by decide +kernel) dX7_init_58 ?_
        refine s_iload_n C 1 dX7_init_61 rfl ?_
        refine s_newO (n := 19 + 2 * k) (ci := 6) (N := 2) C hv (ih_kX_st hk12) (by decide) rfl (fun _ h => List.mem_cons_of_mem _ (List.mem_append_left _ (List.mem_append_left _ (List.mem_append_left _ (List.mem_append_left _ (List.mem_append_left _ (List.mem_append_right _ h))))))) tyX6 tyX6_ok df_X6 (by decide +kernel) (by decide +kernel) (by decide +kernel) (by constructor <;> (show _ ≤ _; simp only [ih_rmC]; omega)) dX7_init_62 ?_
        intro w ew1 ew2 hag
        replace C := ih_Ok_w ew1 ew2 C
        replace hE1 := ew1.trans hE1
        replace hE2 := ew2.trans hE2
        replace hag0 := fun kq (hkq : kq < 1) => (hag0 kq hkq).trans (hag kq (by omega))
        rw [hag (0) (by omega), hag (18) (by omega)]
        replace hv := vg_up (m := 19 + 2 * k + 1) hv (by omega)
        rw [show 19 + 2 * k + 1 = 20 + 2 * k by omega] at hv ⊢
        refine s_dup C dX7_init_65 rfl ?_
        refine s_callIN 0 C (c_X6_init _ w k hk12 _ hv) ih_E0_ok trivial gX7_init_X6_init_n22 rfl (by decide +kernel) C.2.1.2.2.1 (by decide +kernel) rfl (by decide +kernel) (by decide) (by constructor <;> (show _ ≤ _; simp only [ih_rmC]; omega)) rfl rfl (Nat.le_of_ble_eq_true rfl) dX7_init_66 ?_
        intro w S2 ew1 ew2 hag hpost
        replace C := ih_Ok_w ew1 ew2 C
        replace hE1 := ew1.trans hE1
        replace hE2 := ew2.trans hE2
        replace hag0 := fun kq (hkq : kq < 1) => (hag0 kq hkq).trans (hag kq (by omega))
        rw [hag (0) (by omega), hag (19 + 2 * k) (by omega), hag (18) (by omega)]
        replace hpost : S2 = _ := hpost
        subst hpost
        replace hv := vg_R (k := 19 + 2 * k) (j := 0) (i := 20 + 2 * k) (vg_up (m := 20 + 2 * k + 1) hv (by omega)) (by omega) (by omega)
        refine s_aastore (k := 18) (v := 19 + 2 * k) (kd := 12) (ci := 6) C 12 (k) rfl rfl (by omega) (by decide) (ih_ltN (by omega)) rfl (ih_ltN (by omega)) (ih_kX_st hk12) (Or.inr ⟨rfl, rfl⟩) dX7_init_69 ?_
        replace hv := vg_R (k := 18) (j := k) (i := 19 + 2 * k) hv (by omega) (by omega)
        refine s_iinc (u := nI (k + 1)) (lv' := [(1, .int (nI (k + 1))), (0, .ref (w.2.2 0))]) C 1 dX7_init_70 rfl (ih_incN (by decide)) (by decide) rfl ?_
        refine s_goto C 51 dX7_init_73 (by decide) ?_
        rw [show 20 + 2 * k + 1 = 19 + 2 * (k + 1) by omega] at hv ⊢
        rw [show 18 + 2 * k + 1 + 1 = 18 + 2 * (k + 1) by omega, show 532 + 8 * k + 2 + 6 = 532 + 8 * (k + 1) by omega]
        refine s_perm [1, 0] rfl ?_
        exact ih_51 (k + 1) (by omega) w hE1 hE2 hag0 C hv
  have hx40 : ∀ w : ih_Wd, w.1 = w0.1 → w.2.1 = w0.2.1 → (∀ kq, kq < 1 → w0.2.2 kq = w.2.2 kq) → ih_Ok x w A cX7_init 2 RX7 wsX7_init (ih_rmC 12 61 2746) none → ih_vg (ih_Sa 8) 18 → ih_Mw x w (ih_shN ih_shX 18) A Q 2 17 520 40 [(0, .ref (w.2.2 0))] [] (ih_Sa 8) := by
    intro w hE1 hE2 hag0 C hv
    refine s_aload_n C 0 dX7_init_40 rfl ?_
    refine s_bipush (v := nI 12) C dX7_init_41 (by decide) ?_
    refine s_newA (n := 18) (kd := 12) (t0 := 3) (N := 12) (Cn := RX6) C hv rfl (Or.inr ⟨rfl, rfl, rfl⟩) rfl rfl (by decide) hEE.2 (by decide +kernel) (by decide) dX7_init_43 ?_
    intro w ew1 ew2 hag
    replace C := ih_Ok_w ew1 ew2 C
    replace hE1 := ew1.trans hE1
    replace hE2 := ew2.trans hE2
    replace hag0 := fun kq (hkq : kq < 1) => (hag0 kq hkq).trans (hag kq (by omega))
    rw [hag (0) (by omega)]
    replace hv := vg_up (m := 19) hv (by omega)
    refine s_putF (ty := .array (.object "InningsHouse$Striker")) C 7 1 tyX7 tyX7_ok nmX7 (ih_ltN (by omega)) rfl (by decide) rfl (fun _ h => List.mem_cons_of_mem _ (List.mem_append_left _ (List.mem_append_left _ (List.mem_append_left _ (List.mem_append_left _ (List.mem_append_left _ (List.mem_append_left _ (List.mem_append_left _ (List.mem_append_right _ h))))))))) (by decide) rfl (by decide +kernel) rfl hin rfl (by decide +kernel) rfl rfl dX7_init_46 ?_
    replace hv := vg_R (k := 0) (j := 1) (i := 18) hv (by omega) (by omega)
    refine s_iconst (v := nI 0) C dX7_init_49 (by decide) ?_
    refine s_istore_n (lv' := [(1, .int (nI 0)), (0, .ref (w.2.2 0))]) C dX7_init_50 rfl (by decide) rfl ?_
    refine s_perm [1, 0] rfl ?_
    exact loop51 12 0 (by omega) w hE1 hE2 hag0 C hv
  have loop15 : ∀ fu s : Nat, s + fu = 8 → ∀ w : ih_Wd, w.1 = w0.1 → w.2.1 = w0.2.1 → (∀ kq, kq < 1 → w0.2.2 kq = w.2.2 kq) → ih_Ok x w A cX7_init 2 RX7 wsX7_init (ih_rmC 12 61 2746) none → ih_vg (ih_Sa s) (2 + 2 * s) → ih_Mw x w (ih_shN ih_shX (2 + 2 * s)) A Q 2 (1 + 2 * s) (8 + 64 * s) 15 [(0, .ref (w.2.2 0)), (1, .int (nI s))] [] (ih_Sa s) := by
    intro fu
    induction fu with
    | zero =>
      intro s hse w hE1 hE2 hag0 C hv
      obtain rfl : s = 8 := by omega
      refine s_iload_n C 1 dX7_init_15 rfl ?_
      refine s_bipush (v := nI 8) C dX7_init_16 (by decide) ?_
      refine s_icmp_geN 40 C dX7_init_18 (by decide) (by omega) (by omega) (fun h18 => ?_) (fun h18 => ?_)
      · refine s_perm [0] rfl ?_
        exact hx40 w hE1 hE2 hag0 C hv
      · exfalso; omega
    | succ fu ih_15 =>
      intro s hse w hE1 hE2 hag0 C hv
      have hs8 : s < 8 := by omega
      refine s_iload_n C 1 dX7_init_15 rfl ?_
      refine s_bipush (v := nI 8) C dX7_init_16 (by decide) ?_
      refine s_icmp_geN 40 C dX7_init_18 (by decide) (by omega) (by omega) (fun h18 => ?_) (fun h18 => ?_)
      · exfalso; omega
      · refine s_aload_n C 0 dX7_init_21 rfl ?_
        refine s_getR C 7 0 (ih_Sa_0 s (by omega)) (ih_ltN (by omega)) rfl (by decide) rfl (fun _ h => List.mem_cons_of_mem _ (List.mem_append_left _ (List.mem_append_left _ (List.mem_append_left _ (List.mem_append_left _ (List.mem_append_left _ (List.mem_append_left _ (List.mem_append_left _ (List.mem_append_right _ h))))))))) (by decide) rfl (by decide +kernel) dX7_init_22 ?_
        refine s_iload_n C 1 dX7_init_25 rfl ?_
        refine s_newO (n := 2 + 2 * s) (ci := 5) (N := 4) C hv (ih_kX_sh hs8) (by decide) rfl (fun _ h => List.mem_cons_of_mem _ (List.mem_append_left _ (List.mem_append_left _ (List.mem_append_left _ (List.mem_append_left _ (List.mem_append_left _ (List.mem_append_left _ (List.mem_append_right _ h)))))))) tyX5 tyX5_ok df_X5 (by decide +kernel) (by decide +kernel) (by decide +kernel) (by constructor <;> (show _ ≤ _; simp only [ih_rmC]; omega)) dX7_init_26 ?_
        intro w ew1 ew2 hag
        replace C := ih_Ok_w ew1 ew2 C
        replace hE1 := ew1.trans hE1
        replace hE2 := ew2.trans hE2
        replace hag0 := fun kq (hkq : kq < 1) => (hag0 kq hkq).trans (hag kq (by omega))
        rw [hag (0) (by omega), hag (1) (by omega)]
        replace hv := vg_up (m := 2 + 2 * s + 1) hv (by omega)
        rw [show 2 + 2 * s + 1 = 3 + 2 * s by omega] at hv ⊢
        refine s_dup C dX7_init_29 rfl ?_
        refine s_callIN 0 C (c_X5_init _ w s hs8 _ hv) ih_E0_ok trivial gX7_init_X5_init_n15 rfl (by decide +kernel) C.2.1.2.1 (by decide +kernel) rfl (by decide +kernel) (by decide) (by constructor <;> (show _ ≤ _; simp only [ih_rmC]; omega)) rfl rfl (Nat.le_of_ble_eq_true rfl) dX7_init_30 ?_
        intro w S2 ew1 ew2 hag hpost
        replace C := ih_Ok_w ew1 ew2 C
        replace hE1 := ew1.trans hE1
        replace hE2 := ew2.trans hE2
        replace hag0 := fun kq (hkq : kq < 1) => (hag0 kq hkq).trans (hag kq (by omega))
        rw [hag (0) (by omega), hag (2 + 2 * s) (by omega), hag (1) (by omega)]
        replace hpost : S2 = _ := hpost
        subst hpost
        replace hv := vg_I (k := 2 + 2 * s) (j := 1) (v := nI 1) (vg_R (k := 2 + 2 * s) (j := 0) (i := 3 + 2 * s) (vg_up (m := 3 + 2 * s + 1) hv (by omega)) (by omega) (by omega)) (by omega)
        refine s_aastore (k := 1) (v := 2 + 2 * s) (kd := 11) (ci := 5) C 8 (s) rfl rfl (by omega) (by decide) (ih_ltN (by omega)) rfl (ih_ltN (by omega)) (ih_kX_sh hs8) (Or.inl ⟨rfl, rfl⟩) dX7_init_33 ?_
        replace hv := vg_R (k := 1) (j := s) (i := 2 + 2 * s) hv (by omega) (by omega)
        refine s_iinc (u := nI (s + 1)) (lv' := [(1, .int (nI (s + 1))), (0, .ref (w.2.2 0))]) C 1 dX7_init_34 rfl (ih_incN (by decide)) (by decide) rfl ?_
        refine s_goto C 15 dX7_init_37 (by decide) ?_
        rw [show 3 + 2 * s + 1 = 2 + 2 * (s + 1) by omega] at hv ⊢
        rw [show 1 + 2 * s + 1 + 1 = 1 + 2 * (s + 1) by omega, show 8 + 64 * s + 4 + 60 = 8 + 64 * (s + 1) by omega]
        refine s_perm [1, 0] rfl ?_
        exact ih_15 (s + 1) (by omega) w hE1 hE2 hag0 C hv
  suffices HH : ∀ w : ih_Wd, w.1 = w0.1 → w.2.1 = w0.2.1 → (∀ kq, kq < 1 → w0.2.2 kq = w.2.2 kq) → ih_Ok x w A cX7_init 2 RX7 wsX7_init (ih_rmC 12 61 2746) none → ih_Mw x w (ih_shN ih_shX 1) A Q 2 0 0 0 [(0, .ref (w.2.2 0))] [] ih_S0 by
    have h0 := HH w0 rfl rfl (fun _ _ => rfl) C
    rw [hQ] at h0
    exact h0
  intro w hE1 hE2 hag0 C
  have hv : ih_vg ih_S0 1 := vg_0
  refine s_aload_n C 0 dX7_init_0 rfl ?_
  refine s_obj C (by decide +kernel) (by decide +kernel) (by decide +kernel) (by decide) (by decide) dX7_init_1 ?_
  refine s_aload_n C 0 dX7_init_4 rfl ?_
  refine s_bipush (v := nI 8) C dX7_init_5 (by decide) ?_
  refine s_newA (n := 1) (kd := 11) (t0 := 2) (N := 8) (Cn := RX5) C hv rfl (Or.inl ⟨rfl, rfl, rfl⟩) rfl rfl (by decide) hEE.1 (by decide +kernel) (by decide) dX7_init_7 ?_
  intro w ew1 ew2 hag
  replace C := ih_Ok_w ew1 ew2 C
  replace hE1 := ew1.trans hE1
  replace hE2 := ew2.trans hE2
  replace hag0 := fun kq (hkq : kq < 1) => (hag0 kq hkq).trans (hag kq (by omega))
  rw [hag (0) (by omega)]
  replace hv := vg_up (m := 2) hv (by omega)
  refine s_putF (ty := .array (.object "InningsHouse$Sheet")) C 7 0 tyX7 tyX7_ok nmX7 (ih_ltN (by omega)) rfl (by decide) rfl (fun _ h => List.mem_cons_of_mem _ (List.mem_append_left _ (List.mem_append_left _ (List.mem_append_left _ (List.mem_append_left _ (List.mem_append_left _ (List.mem_append_left _ (List.mem_append_left _ (List.mem_append_right _ h))))))))) (by decide) rfl (by decide +kernel) rfl hin rfl (by decide +kernel) rfl rfl dX7_init_10 ?_
  replace hv := vg_R (k := 0) (j := 0) (i := 1) hv (by omega) (by omega)
  refine s_iconst (v := nI 0) C dX7_init_13 (by decide) ?_
  refine s_istore_n (lv' := [(1, .int (nI 0)), (0, .ref (w.2.2 0))]) C dX7_init_14 rfl (by decide) rfl ?_
  refine s_perm [1, 0] rfl ?_
  exact loop15 8 0 (by omega) w hE1 hE2 hag0 C hv

