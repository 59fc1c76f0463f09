theorem ih_RX_set {S : ih_Sg} {T : ih_TT} (h : ih_RX S T) {s i : Nat} (hs : s < 8) (hi : i < 60) (v : Int32) : ih_RX (ih_sI S (3 + 2 * s) i v) (ih_u2 T 3 (60 * s + i) v) := by
  refine ih_RX_s h rfl (fun k hk => ih_u2_row (by omega)) ?_ rfl rfl rfl rfl rfl
  intro q hq
  have h5 := h.2.2.2.2.1 q hq
  refine ⟨(ih_u2_k (by omega)).trans h5.1, fun hl => (ih_u2_k (by omega)).trans (h5.2.1 hl), (ih_u2_k (by omega)).trans h5.2.2.1, fun j hj => ?_⟩
  show ih_u2 S.1 (3 + 2 * s) i v (3 + 2 * q) j = ih_u2 T 3 (60 * s + i) v 3 (60 * q + j)
  by_cases he : q = s ∧ j = i
  · rw [he.1, he.2, ih_u2_s, ih_u2_s]
  · rw [ih_u2_j (f := T) (by omega)]
    by_cases hqs : q = s
    · rw [ih_u2_j (by omega)]; exact h5.2.2.2 j hj
    · rw [ih_u2_k (by omega)]; exact h5.2.2.2 j hj
theorem ih_RX_drop {S : ih_Sg} {T : ih_TT} (h : ih_RX S T) {s : Nat} (hs : s < 8) : ih_RX (ih_sI S (2 + 2 * s) 1 (nI 1)) (ih_u2 T 1 s (-1)) := by
  refine ih_RX_s h rfl (fun k hk => ih_u2_row (by omega)) ?_ rfl rfl rfl rfl rfl
  intro q hq
  have h5 := h.2.2.2.2.1 q hq
  by_cases he : q = s
  · subst he
    have t1 : ih_u2 T 1 q (-1) 1 q = -1 := ih_u2_s
    rw [t1]
    refine ⟨?_, fun hl => absurd (show (-1 : Int32).toInt < 0 by decide) hl, (ih_u2_j (by decide)).trans h5.2.2.1, fun j hj => (ih_u2_k (by omega)).trans (h5.2.2.2 j hj)⟩
    rw [if_pos (by decide)]
    exact ih_u2_s
  · have t1 : ih_u2 T 1 s (-1) 1 q = T 1 q := ih_u2_j he
    rw [t1]
    exact ⟨(ih_u2_k (by omega)).trans h5.1, fun hl => (ih_u2_k (by omega)).trans (h5.2.1 hl), (ih_u2_k (by omega)).trans h5.2.2.1, fun j hj => (ih_u2_k (by omega)).trans (h5.2.2.2 j hj)⟩
set_option maxHeartbeats 4000000 in
set_option maxRecDepth 100000 in
theorem c_X7_drop (l : Launch) (w : ih_Wd) (S : ih_Sg) (T : ih_TT) (hX : ih_RX S T) (hI : ih_Inv T) (s : Int32) : ih_Ci l yX7_drop wsX7_drop 2 w ih_shX [.ref (w.2.2 0), .int s] S (fun r S' => r = (sp_drop T s).1 ∧ ih_RX S' (sp_drop T s).2) := by
  refine ih_bodyi (ret := some .int) rfl rfl (Nat.le_of_ble_eq_true rfl) ?_
  intro x A hA C
  have C : ih_Ok x w A cX7_drop 3 RX7 wsX7_drop (ih_rm 2) (some .int) := C
  show ih_Mw x w ih_shX A (ih_Qi x w ih_shX A _) 3 0 0 0 [(0, .ref (w.2.2 0)), (1, .int s)] [] S
  refine s_iload_n C 1 dX7_drop_0 rfl ?_
  refine s_callSi 1 C (c_X7_isSheet _ w _ _) gX7_drop_X7_isSheet rfl (by decide +kernel) (by decide) (by decide) rfl rfl (Nat.le_of_ble_eq_true rfl) dX7_drop_1 ?_
  rintro rs1 S2 ⟨hrs1, hSS⟩
  obtain rfl := hSS.symm
  refine s_if_ne C 10 dX7_drop_4 (by decide) (fun h4 => ?_) (fun h4 => ?_)
  · replace h4 := ih_b1 hrs1 h4
    obtain ⟨sn, hsn, rfl, hsnt⟩ := ih_nat (a := s) h4.1
    have hsnb : sn < 8 := by omega
    have hp := hX.1
    refine s_aload_n C 0 dX7_drop_10 rfl ?_
    refine s_getR C 7 0 (hp _ _ _ rfl) (by decide) rfl (by decide) rfl (fun _ h => List.mem_cons_of_mem _ (List.mem_append_left _ (List.mem_append_right _ h))) (by decide) rfl (by decide +kernel) dX7_drop_11 ?_
    refine s_iload_n C 1 dX7_drop_14 rfl ?_
    refine s_aaload C 8 (sn) (hp _ _ _ (ih_pX_sh hsnb)) rfl rfl (by omega) (by decide) (by decide) rfl (by decide) dX7_drop_15 ?_
    refine s_astore_n (lv' := [(2, .ref (w.2.2 (2 + 2 * sn))), (0, .ref (w.2.2 0)), (1, .int (nI sn))]) C dX7_drop_16 rfl (by decide) rfl ?_
    refine s_aload_n C 0 dX7_drop_17 rfl ?_
    refine s_getI C 5 1 (by show 2 + 2 * sn < 62; omega) (ih_kX_sh hsnb) (by decide) rfl (fun _ h => List.mem_cons_of_mem _ (List.mem_append_right _ h)) (by decide) rfl (by decide +kernel) dX7_drop_18 ?_
    refine s_topi (fun rmi ermi => ?_)
    replace ermi := ermi.trans (hX.2.2.2.2.1 sn hsnb).1
    refine s_if_eq C 30 dX7_drop_21 (by decide) (fun h21 => ?_) (fun h21 => ?_)
    · replace h21 := ih_b0 ermi h21
      refine s_aload_n C 0 dX7_drop_30 rfl ?_
      refine s_iconst (v := nI 1) C dX7_drop_31 (by decide) ?_
      refine s_putI (ty := .boolean) C 5 1 tyX5 tyX5_ok nmX5 (by show 2 + 2 * sn < 62; omega) (ih_kX_sh hsnb) (by decide) rfl (fun _ h => List.mem_cons_of_mem _ (List.mem_append_right _ h)) (by decide) rfl (by decide +kernel) rfl (by decide +kernel) (by decide) (by decide) dX7_drop_32 ?_
      refine s_aload_n C 1 dX7_drop_35 rfl ?_
      refine s_aload_n C 0 dX7_drop_36 rfl ?_
      refine s_getI C 5 3 (by show 2 + 2 * sn < 62; omega) (ih_kX_sh hsnb) (by decide) rfl (fun _ h => List.mem_cons_of_mem _ (List.mem_append_right _ h)) (by decide) rfl (by decide +kernel) dX7_drop_37 ?_
      refine s_toe (b := T 2 sn) ((ih_u2_j (f := S.1) (by decide)).trans (hX.2.2.2.2.1 sn hsnb).2.2.1) ?_
      refine s_callVi 1 C (c_X7_fine _ w _ _) gX7_drop_X7_fine rfl (by decide +kernel) (by decide) (by decide) (by decide) rfl (by decide) rfl rfl rfl (Nat.le_of_ble_eq_true rfl) dX7_drop_40 ?_
      rintro rf S3 ⟨hrf, hS3⟩
      exact s_ireturn C hA dX7_drop_43 (by rw [sp_drop, if_pos (by omega), ih_n_nI hsn, if_neg (by omega)]; exact ⟨hrf, by rw [hS3, ih_u2_sw (by decide)]; exact ih_RX_f (ih_RX_drop hX hsnb) (nI 0)⟩)
    · replace h21 := ih_b1 ermi h21
      refine s_aload_n C 1 dX7_drop_24 rfl ?_
      refine s_iconst (v := nI 1) C dX7_drop_25 (by decide) ?_
      refine s_callVi 1 C (c_X7_found _ w _ _) gX7_drop_X7_found rfl (by decide +kernel) (by decide) (by decide) (by decide) rfl (by decide) rfl rfl rfl (Nat.le_of_ble_eq_true rfl) dX7_drop_26 ?_
      rintro rf S2 ⟨hrf, hS2⟩
      exact s_ireturn C hA dX7_drop_29 (by rw [sp_drop, if_pos (by omega), ih_n_nI hsn, if_pos (by omega)]; exact ⟨hrf, by rw [hS2]; exact ih_RX_fd hX 1⟩)
  · replace h4 := ih_b0 hrs1 h4
    refine s_ldc (v := (-1000001)) C (by decide +kernel) dX7_drop_7 ?_
    exact s_ireturn C hA dX7_drop_9 (by rw [sp_drop, if_neg (by omega)]; exact ⟨rfl, hX⟩)

set_option maxHeartbeats 4000000 in
set_option maxRecDepth 100000 in
theorem c_X7_set (l : Launch) (w : ih_Wd) (S : ih_Sg) (T : ih_TT) (hX : ih_RX S T) (hI : ih_Inv T) (s i v : Int32) : ih_Ci l yX7_set wsX7_set 2 w ih_shX [.ref (w.2.2 0), .int s, .int i, .int v] S (fun r S' => r = (sp_set T s i v).1 ∧ ih_RX S' (sp_set T s i v).2) := by
  refine ih_bodyi (ret := some .int) rfl rfl (Nat.le_of_ble_eq_true rfl) ?_
  intro x A hA C
  have C : ih_Ok x w A cX7_set 5 RX7 wsX7_set (ih_rm 2) (some .int) := C
  show ih_Mw x w ih_shX A (ih_Qi x w ih_shX A _) 5 0 0 0 [(0, .ref (w.2.2 0)), (1, .int s), (2, .int i), (3, .int v)] [] S
  refine s_iload_n C 1 dX7_set_0 rfl ?_
  refine s_callSi 1 C (c_X7_isSheet _ w _ _) gX7_set_X7_isSheet rfl (by decide +kernel) (by decide) (by decide) rfl rfl (Nat.le_of_ble_eq_true rfl) dX7_set_1 ?_
  rintro rs1 S2 ⟨hrs1, hSS⟩
  obtain rfl := hSS.symm
  refine s_if_ne C 10 dX7_set_4 (by decide) (fun h4 => ?_) (fun h4 => ?_)
  · replace h4 := ih_b1 hrs1 h4
    obtain ⟨sn, hsn, rfl, hsnt⟩ := ih_nat (a := s) h4.1
    have hsnb : sn < 8 := by omega
    have hp := hX.1
    have hmn : ih_mn T sn ≤ 60 := (hI.1 sn hsnb).2.2
    refine s_aload_n C 0 dX7_set_10 rfl ?_
    refine s_getR C 7 0 (hp _ _ _ rfl) (by decide) rfl (by decide) rfl (fun _ h => List.mem_cons_of_mem _ (List.mem_append_left _ (List.mem_append_right _ h))) (by decide) rfl (by decide +kernel) dX7_set_11 ?_
    refine s_iload_n C 1 dX7_set_14 rfl ?_
    refine s_aaload C 8 (sn) (hp _ _ _ (ih_pX_sh hsnb)) rfl rfl (by omega) (by decide) (by decide) rfl (by decide) dX7_set_15 ?_
    refine s_astore (lv' := [(4, .ref (w.2.2 (2 + 2 * sn))), (0, .ref (w.2.2 0)), (1, .int (nI sn)), (2, .int i), (3, .int v)]) C dX7_set_16 (by decide) rfl ?_
    refine s_aload C 0 dX7_set_18 rfl ?_
    refine s_getI C 5 1 (by show 2 + 2 * sn < 62; omega) (ih_kX_sh hsnb) (by decide) rfl (fun _ h => List.mem_cons_of_mem _ (List.mem_append_right _ h)) (by decide) rfl (by decide +kernel) dX7_set_20 ?_
    refine s_topi (fun rmi ermi => ?_)
    replace ermi := ermi.trans (hX.2.2.2.2.1 sn hsnb).1
    refine s_if_eq C 32 dX7_set_23 (by decide) (fun h23 => ?_) (fun h23 => ?_)
    · replace h23 := ih_b0 ermi h23
      refine s_aload C 0 dX7_set_32 rfl ?_
      refine s_iload_n C 3 dX7_set_34 rfl ?_
      refine s_iconst (v := nI 1) C dX7_set_35 (by decide) ?_
      refine s_callVi 2 C (c_X5_holds _ w _ sn (ih_mn T sn) hsnb (hI.1 sn hsnb).2.2 ((hX.2.2.2.2.1 sn hsnb).2.2.1.trans (hI.1 sn hsnb).2.1) _ _) gX7_set_X5_holds rfl (by decide +kernel) (by decide) (by decide) (by show 2 + 2 * sn < 62; omega) (ih_kX_sh hsnb) (by decide) rfl rfl rfl (Nat.le_of_ble_eq_true rfl) dX7_set_36 ?_
      rintro rh36 S2 ⟨hrh36, hSS⟩
      obtain rfl := hSS.symm
      rw [ih_t (n := 1) (by decide)] at hrh36
      refine s_if_ne C 48 dX7_set_39 (by decide) (fun h39 => ?_) (fun h39 => ?_)
      · replace h39 := ih_b1 hrh36 h39
        obtain ⟨ik, hik, rfl, hikt⟩ := ih_nat (a := i) h39.1
        have hikb : ik < 60 := by omega
        refine s_aload C 0 dX7_set_48 rfl ?_
        refine s_getR C 5 0 (hp _ _ _ (ih_pX_it hsnb)) (by show 2 + 2 * sn < 62; omega) (ih_kX_sh hsnb) (by decide) rfl (fun _ h => List.mem_cons_of_mem _ (List.mem_append_right _ h)) (by decide) rfl (by decide +kernel) dX7_set_50 ?_
        refine s_iload_n C 3 dX7_set_53 rfl ?_
        refine s_aload C 0 dX7_set_54 rfl ?_
        refine s_iload_n C 4 dX7_set_56 rfl ?_
        refine s_callVi 1 C (c_X5_cutToLane _ w _ sn hsnb _) gX7_set_X5_cutToLane rfl (by decide +kernel) (by decide) (by decide) (by show 2 + 2 * sn < 62; omega) (ih_kX_sh hsnb) (by decide) rfl rfl rfl (Nat.le_of_ble_eq_true rfl) dX7_set_57 ?_
        rintro rc S2 ⟨hrc, hSS⟩
        obtain rfl := hSS.symm
        rw [(hX.2.2.2.2.1 sn hsnb).2.1 (by omega)] at hrc
        subst hrc
        refine s_iastore C 60 (ik) rfl (ih_lX_it hsnb) (by omega) (by decide) (by show 3 + 2 * sn < 62; omega) (ih_kX_it hsnb) dX7_set_60 ?_
        refine s_aload_n C 1 dX7_set_61 rfl ?_
        refine s_aload C 0 dX7_set_62 rfl ?_
        refine s_getR C 5 0 (hp _ _ _ (ih_pX_it hsnb)) (by show 2 + 2 * sn < 62; omega) (ih_kX_sh hsnb) (by decide) rfl (fun _ h => List.mem_cons_of_mem _ (List.mem_append_right _ h)) (by decide) rfl (by decide +kernel) dX7_set_64 ?_
        refine s_iload_n C 3 dX7_set_67 rfl ?_
        refine s_iaload C 60 (ik) rfl (ih_lX_it hsnb) (by omega) (by decide) (by show 3 + 2 * sn < 62; omega) (ih_kX_it hsnb) dX7_set_68 ?_
        refine s_toe (b := ih_cut (T 1 sn) v) ih_u2_s ?_
        refine s_callVi 1 C (c_X7_fine _ w _ _) gX7_set_X7_fine rfl (by decide +kernel) (by decide) (by decide) (by decide) rfl (by decide) rfl rfl rfl (Nat.le_of_ble_eq_true rfl) dX7_set_69 ?_
        rintro rf S3 ⟨hrf, hS3⟩
        exact s_ireturn C hA dX7_set_72 (by rw [sp_set, if_pos (by omega), ih_n_nI hsn, if_neg (by omega), if_pos (by omega), ih_n_nI hik]; exact ⟨hrf, by rw [hS3, ih_u2_sw (by decide)]; exact ih_RX_f (ih_RX_set hX hsnb hikb _) (nI 0)⟩)
      · replace h39 := ih_b0 hrh36 h39
        refine s_aload_n C 1 dX7_set_42 rfl ?_
        refine s_iconst (v := nI 2) C dX7_set_43 (by decide) ?_
        refine s_callVi 1 C (c_X7_found _ w _ _) gX7_set_X7_found rfl (by decide +kernel) (by decide) (by decide) (by decide) rfl (by decide) rfl rfl rfl (Nat.le_of_ble_eq_true rfl) dX7_set_44 ?_
        rintro rf S2 ⟨hrf, hS2⟩
        exact s_ireturn C hA dX7_set_47 (by rw [sp_set, if_pos (by omega), ih_n_nI hsn, if_neg (by omega), if_neg (by omega)]; exact ⟨hrf, by rw [hS2]; exact ih_RX_fd hX 2⟩)
    · replace h23 := ih_b1 ermi h23
      refine s_aload_n C 1 dX7_set_26 rfl ?_
      refine s_iconst (v := nI 1) C dX7_set_27 (by decide) ?_
      refine s_callVi 1 C (c_X7_found _ w _ _) gX7_set_X7_found rfl (by decide +kernel) (by decide) (by decide) (by decide) rfl (by decide) rfl rfl rfl (Nat.le_of_ble_eq_true rfl) dX7_set_28 ?_
      rintro rf S2 ⟨hrf, hS2⟩
      exact s_ireturn C hA dX7_set_31 (by rw [sp_set, if_pos (by omega), ih_n_nI hsn, if_pos (by omega)]; exact ⟨hrf, by rw [hS2]; exact ih_RX_fd hX 1⟩)
  · replace h4 := ih_b0 hrs1 h4
    refine s_ldc (v := (-1000001)) C (by decide +kernel) dX7_set_7 ?_
    exact s_ireturn C hA dX7_set_9 (by rw [sp_set, if_neg (by omega)]; exact ⟨rfl, hX⟩)

