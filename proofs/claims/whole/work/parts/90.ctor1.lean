theorem ih_ltN {sh : ih_Sh} {n k : Nat} (h : k < n) : k < (ih_shN sh n).2.2 := h
theorem df_X (ci N : Nat) (ty : Nat → FieldType) (fs : List Value) (h : ih_fs (fun k => k) ci (fun _ => nI 0) (fun _ => none) = fs) (h2 : ∀ j, j < N → defaultValue (ty j) = vp_V fs j) : ∀ j, j < N → defaultValue (ty j) = vp_V (ih_fs (fun k => k) ci (fun _ => nI 0) (fun _ => none)) j := by rw [h]; exact h2
set_option maxHeartbeats 4000000 in
set_option maxRecDepth 100000 in
theorem c_X5_init (l : Launch) (w0 : ih_Wd) (s : Nat) (hs : s < 8) (S : ih_Sg) (hv : ih_vg S (3 + 2 * s)) : ih_Cc l yX5_init wsX5_init 2 1 60 w0 ih_shX (3 + 2 * s) (3 + 2 * s + 1) ih_E0 [.ref (w0.2.2 (2 + 2 * s))] S (fun u => u.1 = ih_sI (ih_sR S (2 + 2 * s) 0 (some (3 + 2 * s))) (2 + 2 * s) 1 (nI 1)) := by
  refine ih_bodyc rfl rfl (Nat.le_of_ble_eq_true rfl) rfl ?_
  intro x A hA C hin hEE
  obtain ⟨Q, hQ⟩ : ∃ Q, Q = ih_QG x w0 ih_shX (3 + 2 * s) (3 + 2 * s + 1) 1 60 A (fun u => u.1 = ih_sI (ih_sR S (2 + 2 * s) 0 (some (3 + 2 * s))) (2 + 2 * s) 1 (nI 1)) := ⟨_, rfl⟩
  suffices HH : ∀ w : ih_Wd, w.1 = w0.1 → w.2.1 = w0.2.1 → (∀ kq, kq < 3 + 2 * s → w0.2.2 kq = w.2.2 kq) → ih_Ok x w A cX5_init 1 RX5 wsX5_init (ih_rmC 2 1 60) none → ih_Mw x w (ih_shN ih_shX (3 + 2 * s)) A Q 1 0 0 0 [(0, .ref (w.2.2 (2 + 2 * s)))] [] S by
    have h0 := HH w0 rfl rfl (fun _ _ => rfl) C
    rw [hQ] at h0
    exact h0
  intro w hE1 hE2 hag0 C
  refine s_aload_n C 0 dX5_init_0 rfl ?_
  refine s_obj C (by decide +kernel) (by decide +kernel) (by decide +kernel) (by decide) (by decide) dX5_init_1 ?_
  refine s_aload_n C 0 dX5_init_4 rfl ?_
  refine s_bipush (v := nI 60) C dX5_init_5 (by decide) ?_
  refine s_newI (n := 3 + 2 * s) (N := 60) C hv (ih_kX_it hs) (ih_lX_it hs) rfl (by decide) (by decide +kernel) (by decide) dX5_init_7 ?_
  intro w ew1 ew2 hag
  replace C := ih_Ok_w ew1 ew2 C
  replace hE1 := ew1.trans hE1
  replace hE2 := ew2.trans hE2
  replace hag0 := fun kq (hkq : kq < 3 + 2 * s) => (hag0 kq hkq).trans (hag kq (by omega))
  rw [hag (2 + 2 * s) (by omega)]
  replace hv := vg_up (m := 3 + 2 * s + 1) hv (by omega)
  refine s_putF (ty := .array .int) C 5 0 tyX5 tyX5_ok nmX5 (ih_ltN (by omega)) (ih_kX_sh hs) (by decide) rfl (fun _ h => List.mem_cons_of_mem _ (List.mem_append_right _ h)) (by decide) rfl (by decide +kernel) rfl hin rfl (by decide +kernel) rfl rfl dX5_init_9 ?_
  replace hv := vg_R (k := 2 + 2 * s) (j := 0) (i := 3 + 2 * s) hv (by omega) (by omega)
  refine s_aload_n C 0 dX5_init_12 rfl ?_
  refine s_iconst (v := nI 1) C dX5_init_13 (by decide) ?_
  refine s_putI (ty := .boolean) C 5 1 tyX5 tyX5_ok nmX5 (ih_ltN (by omega)) (ih_kX_sh hs) (by decide) rfl (fun _ h => List.mem_cons_of_mem _ (List.mem_append_right _ h)) (by decide) rfl (by decide +kernel) rfl (by decide +kernel) (by decide) (by decide) dX5_init_14 ?_
  replace hv := vg_I (k := 2 + 2 * s) (j := 1) (v := nI (1)) hv (by omega)
  rw [hQ]
  exact s_vretG C hA hE1 hE2 hag0 dX5_init_17 rfl

set_option maxHeartbeats 4000000 in
set_option maxRecDepth 100000 in
theorem c_X6_init (l : Launch) (w0 : ih_Wd) (k : Nat) (hk : k < 12) (S : ih_Sg) (hv : ih_vg S (20 + 2 * k)) : ih_Cc l yX6_init wsX6_init 2 1 6 w0 ih_shX (20 + 2 * k) (20 + 2 * k + 1) ih_E0 [.ref (w0.2.2 (19 + 2 * k))] S (fun u => u.1 = ih_sR S (19 + 2 * k) 0 (some (20 + 2 * k))) := by
  refine ih_bodyc rfl rfl (Nat.le_of_ble_eq_true rfl) rfl ?_
  intro x A hA C hin hEE
  obtain ⟨Q, hQ⟩ : ∃ Q, Q = ih_QG x w0 ih_shX (20 + 2 * k) (20 + 2 * k + 1) 1 6 A (fun u => u.1 = ih_sR S (19 + 2 * k) 0 (some (20 + 2 * k))) := ⟨_, rfl⟩
  suffices HH : ∀ w : ih_Wd, w.1 = w0.1 → w.2.1 = w0.2.1 → (∀ kq, kq < 20 + 2 * k → w0.2.2 kq = w.2.2 kq) → ih_Ok x w A cX6_init 1 RX6 wsX6_init (ih_rmC 2 1 6) none → ih_Mw x w (ih_shN ih_shX (20 + 2 * k)) A Q 1 0 0 0 [(0, .ref (w.2.2 (19 + 2 * k)))] [] S by
    have h0 := HH w0 rfl rfl (fun _ _ => rfl) C
    rw [hQ] at h0
    exact h0
  intro w hE1 hE2 hag0 C
  refine s_aload_n C 0 dX6_init_0 rfl ?_
  refine s_obj C (by decide +kernel) (by decide +kernel) (by decide +kernel) (by decide) (by decide) dX6_init_1 ?_
  refine s_aload_n C 0 dX6_init_4 rfl ?_
  refine s_bipush (v := nI 6) C dX6_init_5 (by decide) ?_
  refine s_newI (n := 20 + 2 * k) (N := 6) C hv (ih_kX_ch hk) (ih_lX_ch hk) rfl (by decide) (by decide +kernel) (by decide) dX6_init_7 ?_
  intro w ew1 ew2 hag
  replace C := ih_Ok_w ew1 ew2 C
  replace hE1 := ew1.trans hE1
  replace hE2 := ew2.trans hE2
  replace hag0 := fun kq (hkq : kq < 20 + 2 * k) => (hag0 kq hkq).trans (hag kq (by omega))
  rw [hag (19 + 2 * k) (by omega)]
  replace hv := vg_up (m := 20 + 2 * k + 1) hv (by omega)
  refine s_putF (ty := .array .int) C 6 0 tyX6 tyX6_ok nmX6 (ih_ltN (by omega)) (ih_kX_st hk) (by decide) rfl (fun _ h => List.mem_cons_of_mem _ (List.mem_append_right _ h)) (by decide) rfl (by decide +kernel) rfl hin rfl (by decide +kernel) rfl rfl dX6_init_9 ?_
  replace hv := vg_R (k := 19 + 2 * k) (j := 0) (i := 20 + 2 * k) hv (by omega) (by omega)
  rw [hQ]
  exact s_vretG C hA hE1 hE2 hag0 dX6_init_12 rfl

set_option maxHeartbeats 4000000 in
set_option maxRecDepth 100000 in
theorem c_X3_init (l : Launch) (w0 : ih_Wd) (S : ih_Sg) (hv : ih_vg S (59)) : ih_Cc l yX3_init wsX3_init 2 1 9 w0 ih_shX (59) (60) ih_E0 [.ref (w0.2.2 58), .ref (w0.2.2 43)] S (fun u => u.1 = ih_sR (ih_sR S 58 1 (some 59)) 58 0 (some 43)) := by
  refine ih_bodyc rfl rfl (Nat.le_of_ble_eq_true rfl) rfl ?_
  intro x A hA C hin hEE
  obtain ⟨Q, hQ⟩ : ∃ Q, Q = ih_QG x w0 ih_shX (59) (60) 1 9 A (fun u => u.1 = ih_sR (ih_sR S 58 1 (some 59)) 58 0 (some 43)) := ⟨_, rfl⟩
  suffices HH : ∀ w : ih_Wd, w.1 = w0.1 → w.2.1 = w0.2.1 → (∀ kq, kq < 59 → w0.2.2 kq = w.2.2 kq) → ih_Ok x w A cX3_init 2 RX3 wsX3_init (ih_rmC 2 1 9) none → ih_Mw x w (ih_shN ih_shX (59)) A Q 2 0 0 0 [(0, .ref (w.2.2 58)), (1, .ref (w.2.2 43))] [] S by
    have h0 := HH w0 rfl rfl (fun _ _ => rfl) C
    rw [hQ] at h0
    exact h0
  intro w hE1 hE2 hag0 C
  refine s_aload_n C 0 dX3_init_0 rfl ?_
  refine s_obj C (by decide +kernel) (by decide +kernel) (by decide +kernel) (by decide) (by decide) dX3_init_1 ?_
  refine s_aload_n C 0 dX3_init_4 rfl ?_
  refine s_bipush (v := nI 9) C dX3_init_5 (by decide) ?_
  refine s_newI (n := 59) (N := 9) C hv rfl rfl rfl (by decide) (by decide +kernel) (by decide) dX3_init_7 ?_
  intro w ew1 ew2 hag
  replace C := ih_Ok_w ew1 ew2 C
  replace hE1 := ew1.trans hE1
  replace hE2 := ew2.trans hE2
  replace hag0 := fun kq (hkq : kq < 59) => (hag0 kq hkq).trans (hag kq (by omega))
  rw [hag (58) (by omega), hag (43) (by omega)]
  replace hv := vg_up (m := 60) hv (by omega)
  refine s_putF (ty := .array .int) C 3 1 tyX3 tyX3_ok nmX3 (ih_ltN (by omega)) rfl (by decide) rfl (fun _ h => List.mem_cons_of_mem _ (List.mem_append_right _ h)) (by decide) rfl (by decide +kernel) rfl hin rfl (by decide +kernel) rfl rfl dX3_init_9 ?_
  replace hv := vg_R (k := 58) (j := 1) (i := 59) hv (by omega) (by omega)
  refine s_aload_n C 0 dX3_init_12 rfl ?_
  refine s_aload_n C 1 dX3_init_13 rfl ?_
  refine s_putF (ty := .object "InningsHouse$Bases") C 3 0 tyX3 tyX3_ok nmX3 (ih_ltN (by omega)) rfl (by decide) rfl (fun _ h => List.mem_cons_of_mem _ (List.mem_append_right _ h)) (by decide) rfl (by decide +kernel) rfl hin rfl (by decide +kernel) rfl rfl dX3_init_14 ?_
  replace hv := vg_R (k := 58) (j := 0) (i := 43) hv (by omega) (by omega)
  rw [hQ]
  exact s_vretG C hA hE1 hE2 hag0 dX3_init_17 rfl

set_option maxHeartbeats 4000000 in
set_option maxRecDepth 100000 in
theorem c_X0_init (l : Launch) (w0 : ih_Wd) (S : ih_Sg) (hv : ih_vg S (61)) : ih_Cc l yX0_init wsX0_init 2 1 16 w0 ih_shX (61) (62) ih_E0 [.ref (w0.2.2 60)] S (fun u => u.1 = ih_sR S 60 0 (some 61)) := by
  refine ih_bodyc rfl rfl (Nat.le_of_ble_eq_true rfl) rfl ?_
  intro x A hA C hin hEE
  obtain ⟨Q, hQ⟩ : ∃ Q, Q = ih_QG x w0 ih_shX (61) (62) 1 16 A (fun u => u.1 = ih_sR S 60 0 (some 61)) := ⟨_, rfl⟩
  suffices HH : ∀ w : ih_Wd, w.1 = w0.1 → w.2.1 = w0.2.1 → (∀ kq, kq < 61 → w0.2.2 kq = w.2.2 kq) → ih_Ok x w A cX0_init 1 RX0 wsX0_init (ih_rmC 2 1 16) none → ih_Mw x w (ih_shN ih_shX (61)) A Q 1 0 0 0 [(0, .ref (w.2.2 60))] [] S by
    have h0 := HH w0 rfl rfl (fun _ _ => rfl) C
    rw [hQ] at h0
    exact h0
  intro w hE1 hE2 hag0 C
  refine s_aload_n C 0 dX0_init_0 rfl ?_
  refine s_obj C (by decide +kernel) (by decide +kernel) (by decide +kernel) (by decide) (by decide) dX0_init_1 ?_
  refine s_aload_n C 0 dX0_init_4 rfl ?_
  refine s_bipush (v := nI 16) C dX0_init_5 (by decide) ?_
  refine s_newI (n := 61) (N := 16) C hv rfl rfl rfl (by decide) (by decide +kernel) (by decide) dX0_init_7 ?_
  intro w ew1 ew2 hag
  replace C := ih_Ok_w ew1 ew2 C
  replace hE1 := ew1.trans hE1
  replace hE2 := ew2.trans hE2
  replace hag0 := fun kq (hkq : kq < 61) => (hag0 kq hkq).trans (hag kq (by omega))
  rw [hag (60) (by omega)]
  replace hv := vg_up (m := 62) hv (by omega)
  refine s_putF (ty := .array .int) C 0 0 tyX0 tyX0_ok nmX0 (ih_ltN (by omega)) rfl (by decide) rfl (fun _ h => List.mem_cons_of_mem _ (List.mem_append_right _ h)) (by decide) rfl (by decide +kernel) rfl hin rfl (by decide +kernel) rfl rfl dX0_init_9 ?_
  replace hv := vg_R (k := 60) (j := 0) (i := 61) hv (by omega) (by omega)
  rw [hQ]
  exact s_vretG C hA hE1 hE2 hag0 dX0_init_12 rfl

set_option maxHeartbeats 4000000 in
set_option maxRecDepth 100000 in
theorem c_X2_init (l : Launch) (w0 : ih_Wd) (S : ih_Sg) (hv : ih_vg S (47)) : ih_Cc l yX2_init wsX2_init 2 6 568 w0 ih_shX (47) (53) ih_E0 [.ref (w0.2.2 46), .ref (w0.2.2 43), .ref (w0.2.2 18)] S (fun u => u.1 = ih_sR (ih_sR (ih_sR (ih_sR (ih_sR (ih_sR (ih_sR (ih_sR S 46 2 (some 47)) 46 4 (some 48)) 46 5 (some 49)) 46 6 (some 50)) 46 7 (some 51)) 46 8 (some 52)) 46 0 (some 43)) 46 1 (some 18)) := by
  refine ih_bodyc rfl rfl (Nat.le_of_ble_eq_true rfl) rfl ?_
  intro x A hA C hin hEE
  obtain ⟨Q, hQ⟩ : ∃ Q, Q = ih_QG x w0 ih_shX (47) (53) 6 568 A (fun u => u.1 = ih_sR (ih_sR (ih_sR (ih_sR (ih_sR (ih_sR (ih_sR (ih_sR S 46 2 (some 47)) 46 4 (some 48)) 46 5 (some 49)) 46 6 (some 50)) 46 7 (some 51)) 46 8 (some 52)) 46 0 (some 43)) 46 1 (some 18)) := ⟨_, rfl⟩
  suffices HH : ∀ w : ih_Wd, w.1 = w0.1 → w.2.1 = w0.2.1 → (∀ kq, kq < 47 → w0.2.2 kq = w.2.2 kq) → ih_Ok x w A cX2_init 3 RX2 wsX2_init (ih_rmC 2 6 568) none → ih_Mw x w (ih_shN ih_shX (47)) A Q 3 0 0 0 [(0, .ref (w.2.2 46)), (1, .ref (w.2.2 43)), (2, .ref (w.2.2 18))] [] S by
    have h0 := HH w0 rfl rfl (fun _ _ => rfl) C
    rw [hQ] at h0
    exact h0
  intro w hE1 hE2 hag0 C
  refine s_aload_n C 0 dX2_init_0 rfl ?_
  refine s_obj C (by decide +kernel) (by decide +kernel) (by decide +kernel) (by decide) (by decide) dX2_init_1 ?_
  refine s_aload_n C 0 dX2_init_4 rfl ?_
  refine s_bipush (v := nI 9) C dX2_init_5 (by decide) ?_
  refine s_newI (n := 47) (N := 9) C hv rfl rfl rfl (by decide) (by decide +kernel) (by decide) dX2_init_7 ?_
  intro w ew1 ew2 hag
  replace C := ih_Ok_w ew1 ew2 C
  replace hE1 := ew1.trans hE1
  replace hE2 := ew2.trans hE2
  replace hag0 := fun kq (hkq : kq < 47) => (hag0 kq hkq).trans (hag kq (by omega))
  rw [hag (46) (by omega), hag (43) (by omega), hag (18) (by omega)]
  replace hv := vg_up (m := 48) hv (by omega)
  refine s_putF (ty := .array .int) C 2 2 tyX2 tyX2_ok nmX2 (ih_ltN (by omega)) rfl (by decide) rfl (fun _ h => List.mem_cons_of_mem _ (List.mem_append_right _ h)) (by decide) rfl (by decide +kernel) rfl hin rfl (by decide +kernel) rfl rfl dX2_init_9 ?_
  replace hv := vg_R (k := 46) (j := 2) (i := 47) hv (by omega) (by omega)
  refine s_aload_n C 0 dX2_init_12 rfl ?_
  refine s_bipush (v := nI 9) C dX2_init_13 (by decide) ?_
  refine s_newI (n := 48) (N := 9) C hv rfl rfl rfl (by decide) (by decide +kernel) (by decide) dX2_init_15 ?_
  intro w ew1 ew2 hag
  replace C := ih_Ok_w ew1 ew2 C
  replace hE1 := ew1.trans hE1
  replace hE2 := ew2.trans hE2
  replace hag0 := fun kq (hkq : kq < 47) => (hag0 kq hkq).trans (hag kq (by omega))
  rw [hag (46) (by omega), hag (43) (by omega), hag (18) (by omega)]
  replace hv := vg_up (m := 49) hv (by omega)
  refine s_putF (ty := .array .int) C 2 4 tyX2 tyX2_ok nmX2 (ih_ltN (by omega)) rfl (by decide) rfl (fun _ h => List.mem_cons_of_mem _ (List.mem_append_right _ h)) (by decide) rfl (by decide +kernel) rfl hin rfl (by decide +kernel) rfl rfl dX2_init_17 ?_
  replace hv := vg_R (k := 46) (j := 4) (i := 48) hv (by omega) (by omega)
  refine s_aload_n C 0 dX2_init_20 rfl ?_
  refine s_bipush (v := nI 25) C dX2_init_21 (by decide) ?_
  refine s_newJ (n := 49) (N := 25) C hv rfl rfl rfl (by decide) (by decide +kernel) (by decide) dX2_init_23 ?_
  intro w ew1 ew2 hag
  replace C := ih_Ok_w ew1 ew2 C
  replace hE1 := ew1.trans hE1
  replace hE2 := ew2.trans hE2
  replace hag0 := fun kq (hkq : kq < 47) => (hag0 kq hkq).trans (hag kq (by omega))
  rw [hag (46) (by omega), hag (43) (by omega), hag (18) (by omega)]
  replace hv := vg_up (m := 50) hv (by omega)
  refine s_putR (ty := .array .long) C 2 5 tyX2 tyX2_ok nmX2 (ih_ltN (by omega)) rfl (by decide) rfl (fun _ h => List.mem_cons_of_mem _ (List.mem_append_right _ h)) (by decide) rfl (by decide +kernel) rfl (by decide +kernel) rfl rfl dX2_init_25 ?_
  replace hv := vg_R (k := 46) (j := 5) (i := 49) hv (by omega) (by omega)
  refine s_aload_n C 0 dX2_init_28 rfl ?_
  refine s_bipush (v := nI 25) C dX2_init_29 (by decide) ?_
  refine s_newJ (n := 50) (N := 25) C hv rfl rfl rfl (by decide) (by decide +kernel) (by decide) dX2_init_31 ?_
  intro w ew1 ew2 hag
  replace C := ih_Ok_w ew1 ew2 C
  replace hE1 := ew1.trans hE1
  replace hE2 := ew2.trans hE2
  replace hag0 := fun kq (hkq : kq < 47) => (hag0 kq hkq).trans (hag kq (by omega))
  rw [hag (46) (by omega), hag (43) (by omega), hag (18) (by omega)]
  replace hv := vg_up (m := 51) hv (by omega)
  refine s_putR (ty := .array .long) C 2 6 tyX2 tyX2_ok nmX2 (ih_ltN (by omega)) rfl (by decide) rfl (fun _ h => List.mem_cons_of_mem _ (List.mem_append_right _ h)) (by decide) rfl (by decide +kernel) rfl (by decide +kernel) rfl rfl dX2_init_33 ?_
  replace hv := vg_R (k := 46) (j := 6) (i := 50) hv (by omega) (by omega)
  refine s_aload_n C 0 dX2_init_36 rfl ?_
  refine s_sipush (v := nI 250) C dX2_init_37 (by decide) ?_
  refine s_newI (n := 51) (N := 250) C hv rfl rfl rfl (by decide) (by decide +kernel) (by decide) dX2_init_40 ?_
  intro w ew1 ew2 hag
  replace C := ih_Ok_w ew1 ew2 C
  replace hE1 := ew1.trans hE1
  replace hE2 := ew2.trans hE2
  replace hag0 := fun kq (hkq : kq < 47) => (hag0 kq hkq).trans (hag kq (by omega))
  rw [hag (46) (by omega), hag (43) (by omega), hag (18) (by omega)]
  replace hv := vg_up (m := 52) hv (by omega)
  refine s_putR (ty := .array .int) C 2 7 tyX2 tyX2_ok nmX2 (ih_ltN (by omega)) rfl (by decide) rfl (fun _ h => List.mem_cons_of_mem _ (List.mem_append_right _ h)) (by decide) rfl (by decide +kernel) rfl (by decide +kernel) rfl rfl dX2_init_42 ?_
  replace hv := vg_R (k := 46) (j := 7) (i := 51) hv (by omega) (by omega)
  refine s_aload_n C 0 dX2_init_45 rfl ?_
  refine s_sipush (v := nI 250) C dX2_init_46 (by decide) ?_
  refine s_newI (n := 52) (N := 250) C hv rfl rfl rfl (by decide) (by decide +kernel) (by decide) dX2_init_49 ?_
  intro w ew1 ew2 hag
  replace C := ih_Ok_w ew1 ew2 C
  replace hE1 := ew1.trans hE1
  replace hE2 := ew2.trans hE2
  replace hag0 := fun kq (hkq : kq < 47) => (hag0 kq hkq).trans (hag kq (by omega))
  rw [hag (46) (by omega), hag (43) (by omega), hag (18) (by omega)]
  replace hv := vg_up (m := 53) hv (by omega)
  refine s_putR (ty := .array .int) C 2 8 tyX2 tyX2_ok nmX2 (ih_ltN (by omega)) rfl (by decide) rfl (fun _ h => List.mem_cons_of_mem _ (List.mem_append_right _ h)) (by decide) rfl (by decide +kernel) rfl (by decide +kernel) rfl rfl dX2_init_51 ?_
  replace hv := vg_R (k := 46) (j := 8) (i := 52) hv (by omega) (by omega)
  refine s_aload_n C 0 dX2_init_54 rfl ?_
  refine s_aload_n C 1 dX2_init_55 rfl ?_
  refine s_putF (ty := .object "InningsHouse$Bases") C 2 0 tyX2 tyX2_ok nmX2 (ih_ltN (by omega)) rfl (by decide) rfl (fun _ h => List.mem_cons_of_mem _ (List.mem_append_right _ h)) (by decide) rfl (by decide +kernel) rfl hin rfl (by decide +kernel) rfl rfl dX2_init_56 ?_
  replace hv := vg_R (k := 46) (j := 0) (i := 43) hv (by omega) (by omega)
  refine s_aload_n C 0 dX2_init_59 rfl ?_
  refine s_aload_n C 2 dX2_init_60 rfl ?_
  refine s_putF (ty := .array (.object "InningsHouse$Striker")) C 2 1 tyX2 tyX2_ok nmX2 (ih_ltN (by omega)) rfl (by decide) rfl (fun _ h => List.mem_cons_of_mem _ (List.mem_append_right _ h)) (by decide) rfl (by decide +kernel) rfl hin rfl (by decide +kernel) rfl rfl dX2_init_61 ?_
  replace hv := vg_R (k := 46) (j := 1) (i := 18) hv (by omega) (by omega)
  rw [hQ]
  exact s_vretG C hA hE1 hE2 hag0 dX2_init_64 rfl

