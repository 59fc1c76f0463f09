/-- the trace changes, and nothing else -/
theorem ih_RX_a {S V : ih_Sg} {T U : ih_TT} (h : ih_RX S T) (h2 : V.2 = S.2) (hc : ∀ k, k ≠ 60 → k ≠ 61 → V.1 k = S.1 k) (ha : rx_a V.1 U) (hU : ∀ k, k ≠ 0 → k ≠ 13 → U k = T k) (h0 : ∀ j, j ≠ 21 → U 0 j = T 0 j) : ih_RX V U := by
  obtain ⟨g1, g2, g3, g4, g5, g6, g7, g8, g9, g10, g11⟩ := h
  refine ⟨fun k j i q => by rw [h2]; exact g1 k j i q, by rw [h2]; exact g2, by rw [hc 0 (by decide) (by decide), h0 1 (by decide)]; exact g3, by rw [hc 0 (by decide) (by decide), h0 5 (by decide)]; exact g4, rx_s_c g5 (fun s hs => ⟨hc _ (by omega) (by omega), hc _ (by omega) (by omega)⟩) ⟨hU 1 (by decide) (by decide), hU 2 (by decide) (by decide), hU 3 (by decide) (by decide)⟩, rx_k_c g6 (fun s hs => ⟨hc _ (by omega) (by omega), hc _ (by omega) (by omega)⟩) (hU 4 (by decide) (by decide)), ?_, ?_, ha, ?_, rx_m_d g11 (by rw [hc 53 (by decide) (by decide)]) (hc 55 (by decide) (by decide)) (h0 5 (by decide)) (hU 4 (by decide) (by decide)) (hU 9 (by decide) (by decide))⟩
  · unfold rx_o; rw [hc 46 (by decide) (by decide), hc 47 (by decide) (by decide), h0 7 (by decide), hU 5 (by decide) (by decide)]; exact g7
  · unfold rx_t; rw [hc 54 (by decide) (by decide), hU 9 (by decide) (by decide)]; exact g8
  · unfold rx_b; rw [hc 44 (by decide) (by decide), hc 45 (by decide) (by decide)]; exact g10
theorem ih_RX_bg {S : ih_Sg} {T : ih_TT} (h : ih_RX S T) {b : Nat} (ht : ih_td T < 16) : ih_RX (ih_sI (ih_sI S 61 (ih_td T) (nI b)) 60 1 (nI (ih_td T + 1))) (ih_bg T b) := by
  unfold ih_bg
  rw [if_pos ht]
  refine ih_RX_a h rfl (fun k h1 h2 => (ih_sI_row h1).trans (ih_sI_row h2)) ⟨?_, fun i hi => ?_⟩ (fun k h1 h2 => (ih_u2_row h1).trans (ih_u2_row h2)) (fun j hj => ?_)
  · rw [ih_u2_s]; exact ih_sI_s
  · rw [ih_sI_row (by decide), ih_u2_k (by decide)]
    show ih_u2 S.1 61 _ _ 61 i = _
    by_cases e : i = ih_td T
    · rw [e, ih_u2_s, ih_u2_s]
    · rw [ih_u2_j e, ih_u2_j e]; exact h.2.2.2.2.2.2.2.2.1.2 i hi
  · rw [ih_u2_j hj, ih_u2_k (by decide)]
theorem ih_RX_t0 {S : ih_Sg} {T : ih_TT} (h : ih_RX S T) : ih_RX (ih_sI S 60 1 (nI 0)) (ih_u2 T 0 21 (nI 0)) := by
  refine ih_RX_a h rfl (fun k h1 h2 => ih_sI_row h1) ⟨?_, fun i hi => ?_⟩ (fun k h1 h2 => ih_u2_row h1) (fun j hj => ih_u2_j hj)
  · rw [ih_u2_s]; exact ih_sI_s
  · rw [ih_sI_row (by decide), ih_u2_k (by decide)]; exact h.2.2.2.2.2.2.2.2.1.2 i hi
set_option maxHeartbeats 4000000 in
set_option maxRecDepth 100000 in
theorem c_X0_leave (l : Launch) (w : ih_Wd) (S : ih_Sg) (T : ih_TT) (hX : ih_RX S T) (hA2 : ih_InvA T) (b : Nat) : ih_Cv l yX0_leave wsX0_leave 0 w ih_shX [.ref (w.2.2 60), .int (nI b)] S (fun S' => ih_RX S' (ih_bg T b)) := by
  refine ih_bodyv (ret := none) rfl rfl (Nat.le_of_ble_eq_true rfl) ?_
  intro x A hA C
  have C : ih_Ok x w A cX0_leave 2 RX0 wsX0_leave (ih_rm 0) (none) := C
  show ih_Mw x w ih_shX A (ih_Qv x w ih_shX A _) 2 0 0 0 [(0, .ref (w.2.2 60)), (1, .int (nI b))] [] S
  have hp := hX.1
  have htd := hA2.2
  refine s_aload_n C 0 dX0_leave_0 rfl ?_
  refine s_getI C 0 1 (by decide) rfl (by decide) rfl (fun _ h => List.mem_cons_of_mem _ (List.mem_append_right _ h)) (by decide) rfl (by decide +kernel) dX0_leave_1 ?_
  refine s_toe (hX.2.2.2.2.2.2.2.2.1.1.trans hA2.1) ?_
  refine s_bipush (v := nI 16) C dX0_leave_4 (by decide) ?_
  refine s_icmp_geN 29 C dX0_leave_6 (by decide) (by omega) (by omega) (fun h6 => ?_) (fun h6 => ?_)
  · exact s_vreturn C hA dX0_leave_29 (by unfold ih_bg; rw [if_neg (by omega)]; exact hX)
  · refine s_aload_n C 0 dX0_leave_9 rfl ?_
    refine s_getR C 0 0 (hp _ _ _ rfl) (by decide) rfl (by decide) rfl (fun _ h => List.mem_cons_of_mem _ (List.mem_append_right _ h)) (by decide) rfl (by decide +kernel) dX0_leave_10 ?_
    refine s_aload_n C 0 dX0_leave_13 rfl ?_
    refine s_getI C 0 1 (by decide) rfl (by decide) rfl (fun _ h => List.mem_cons_of_mem _ (List.mem_append_right _ h)) (by decide) rfl (by decide +kernel) dX0_leave_14 ?_
    refine s_toe (hX.2.2.2.2.2.2.2.2.1.1.trans hA2.1) ?_
    refine s_iload_n C 1 dX0_leave_17 rfl ?_
    refine s_iastore C 16 (ih_td T) rfl rfl (by omega) (by decide) (by decide) rfl dX0_leave_18 ?_
    refine s_aload_n C 0 dX0_leave_19 rfl ?_
    refine s_dup C dX0_leave_20 rfl ?_
    refine s_getI C 0 1 (by decide) rfl (by decide) rfl (fun _ h => List.mem_cons_of_mem _ (List.mem_append_right _ h)) (by decide) rfl (by decide +kernel) dX0_leave_21 ?_
    refine s_toe (b := nI (ih_td T)) ((congrFun (ih_sI_row (S := S) (k := 61) (a := 60) (by decide)) 1).trans (hX.2.2.2.2.2.2.2.2.1.1.trans hA2.1)) ?_
    refine s_iconst (v := nI 1) C dX0_leave_24 (by decide) ?_
    refine s_iaddN C dX0_leave_25 ?_
    refine s_putI (ty := .int) C 0 1 tyX0 tyX0_ok nmX0 (by decide) rfl (by decide) rfl (fun _ h => List.mem_cons_of_mem _ (List.mem_append_right _ h)) (by decide) rfl (by decide +kernel) rfl (by decide +kernel) rfl rfl dX0_leave_26 ?_
    exact s_vreturn C hA dX0_leave_29 (ih_RX_bg hX (by omega))

set_option maxHeartbeats 4000000 in
set_option maxRecDepth 100000 in
theorem c_X0_sizeLent (l : Launch) (w : ih_Wd) (S : ih_Sg) (T : ih_TT) (hX : ih_RX S T) (hA2 : ih_InvA T) (k : Nat) (hk : k < 12) (c : Nat → Nat) (hc : ∀ a, a < 7 → T 4 (7 * k + a) = nI (c a) ∧ c a ≤ 1000) : ih_Ci l yX0_sizeLent wsX0_sizeLent 1 w ih_shX [.ref (w.2.2 60), .ref (w.2.2 (19 + 2 * k))] S (fun r S' => r = nI (c 6) ∧ ih_RX S' (ih_bg T 10)) := by
  refine ih_bodyi (ret := some .int) rfl rfl (Nat.le_of_ble_eq_true rfl) ?_
  intro x A hA C
  have C : ih_Ok x w A cX0_sizeLent 2 RX0 wsX0_sizeLent (ih_rm 1) (some .int) := C
  show ih_Mw x w ih_shX A (ih_Qi x w ih_shX A _) 2 0 0 0 [(0, .ref (w.2.2 60)), (1, .ref (w.2.2 (19 + 2 * k)))] [] S
  have hp := hX.1
  have hb0 := (hc 0 (by decide)).2
  have hb5 := (hc 5 (by decide)).2
  have hb6 := (hc 6 (by decide)).2
  refine s_aload_n C 0 dX0_sizeLent_0 rfl ?_
  refine s_bipush (v := nI 10) C dX0_sizeLent_1 (by decide) ?_
  refine s_callVv 1 C (c_X0_leave _ w _ _ hX hA2 10) gX0_sizeLent_X0_leave rfl (by decide +kernel) (by decide) (by decide) (by decide) rfl (by decide) rfl rfl rfl (Nat.le_of_ble_eq_true rfl) dX0_sizeLent_3 ?_
  rintro S hX
  have hp := hX.1
  refine s_aload_n C 1 dX0_sizeLent_6 rfl ?_
  refine s_getI C 6 1 (by show 19 + 2 * k < 62; omega) (ih_kX_st hk) (by decide) rfl (fun _ h => List.mem_cons_of_mem _ (List.mem_append_left _ (List.mem_append_right _ h))) (by decide) rfl (by decide +kernel) dX0_sizeLent_7 ?_
  refine s_toe ((hX.2.2.2.2.2.1 k hk).2.trans ((ih_bg_c hc) 6 (by decide)).1) ?_
  exact s_ireturn C hA dX0_sizeLent_10 ⟨rfl, hX⟩

set_option maxHeartbeats 4000000 in
set_option maxRecDepth 100000 in
theorem c_X0_sizeOfSafe (l : Launch) (w : ih_Wd) (S : ih_Sg) (T : ih_TT) (hX : ih_RX S T) (hA2 : ih_InvA T) (k : Nat) (hk : k < 12) (c : Nat → Nat) (hc : ∀ a, a < 7 → T 4 (7 * k + a) = nI (c a) ∧ c a ≤ 1000) : ih_Ci l yX0_sizeOfSafe wsX0_sizeOfSafe 2 w ih_shX [.ref (w.2.2 60), .ref (w.2.2 (19 + 2 * k))] S (fun r S' => r = nI (c 6 + 1000 - c 0) ∧ ih_RX S' (ih_bg (ih_bg T 11) 10)) := by
  refine ih_bodyi (ret := some .int) rfl rfl (Nat.le_of_ble_eq_true rfl) ?_
  intro x A hA C
  have C : ih_Ok x w A cX0_sizeOfSafe 2 RX0 wsX0_sizeOfSafe (ih_rm 2) (some .int) := C
  show ih_Mw x w ih_shX A (ih_Qi x w ih_shX A _) 2 0 0 0 [(0, .ref (w.2.2 60)), (1, .ref (w.2.2 (19 + 2 * k)))] [] S
  have hp := hX.1
  have hb0 := (hc 0 (by decide)).2
  have hb5 := (hc 5 (by decide)).2
  have hb6 := (hc 6 (by decide)).2
  refine s_aload_n C 0 dX0_sizeOfSafe_0 rfl ?_
  refine s_bipush (v := nI 11) C dX0_sizeOfSafe_1 (by decide) ?_
  refine s_callVv 1 C (c_X0_leave _ w _ _ hX hA2 11) gX0_sizeOfSafe_X0_leave rfl (by decide +kernel) (by decide) (by decide) (by decide) rfl (by decide) rfl rfl rfl (Nat.le_of_ble_eq_true rfl) dX0_sizeOfSafe_3 ?_
  rintro S hX
  have hp := hX.1
  refine s_aload_n C 0 dX0_sizeOfSafe_6 rfl ?_
  refine s_aload_n C 1 dX0_sizeOfSafe_7 rfl ?_
  refine s_callVi 1 C (c_X0_sizeLent _ w _ _ hX (ih_bg_A hA2) k hk c (ih_bg_c hc)) gX0_sizeOfSafe_X0_sizeLent rfl (by decide +kernel) (by decide) (by decide) (by decide) rfl (by decide) rfl rfl rfl (Nat.le_of_ble_eq_true rfl) dX0_sizeOfSafe_8 ?_
  rintro rq S ⟨hrq, hX⟩
  subst hrq
  have hp := hX.1
  refine s_sipush (v := nI 1000) C dX0_sizeOfSafe_11 (by decide) ?_
  refine s_iaddN C dX0_sizeOfSafe_14 ?_
  refine s_aload_n C 1 dX0_sizeOfSafe_15 rfl ?_
  refine s_getR C 6 0 (hp _ _ _ (ih_pX_ch hk)) (by show 19 + 2 * k < 62; omega) (ih_kX_st hk) (by decide) rfl (fun _ h => List.mem_cons_of_mem _ (List.mem_append_left _ (List.mem_append_right _ h))) (by decide) rfl (by decide +kernel) dX0_sizeOfSafe_16 ?_
  refine s_iconst (v := nI 0) C dX0_sizeOfSafe_19 (by decide) ?_
  refine s_iaload C 6 (0) rfl (ih_lX_ch hk) (by decide) (by decide) (by show 20 + 2 * k < 62; omega) (ih_kX_ch hk) dX0_sizeOfSafe_20 ?_
  refine s_toe (((hX.2.2.2.2.2.1 k hk).1 0 (by decide)).trans ((ih_bg_c (ih_bg_c hc)) 0 (by decide)).1) ?_
  refine s_isubN C dX0_sizeOfSafe_21 (by omega) ?_
  exact s_ireturn C hA dX0_sizeOfSafe_22 ⟨rfl, hX⟩

set_option maxHeartbeats 4000000 in
set_option maxRecDepth 100000 in
theorem c_X0_sizeOfStrong (l : Launch) (w : ih_Wd) (S : ih_Sg) (T : ih_TT) (hX : ih_RX S T) (hA2 : ih_InvA T) (k : Nat) (hk : k < 12) (c : Nat → Nat) (hc : ∀ a, a < 7 → T 4 (7 * k + a) = nI (c a) ∧ c a ≤ 1000) : ih_Ci l yX0_sizeOfStrong wsX0_sizeOfStrong 3 w ih_shX [.ref (w.2.2 60), .ref (w.2.2 (19 + 2 * k))] S (fun r S' => r = nI ((c 6 + 1000 - c 0) * 2) ∧ ih_RX S' (ih_bg (ih_bg (ih_bg T 12) 11) 10)) := by
  refine ih_bodyi (ret := some .int) rfl rfl (Nat.le_of_ble_eq_true rfl) ?_
  intro x A hA C
  have C : ih_Ok x w A cX0_sizeOfStrong 2 RX0 wsX0_sizeOfStrong (ih_rm 3) (some .int) := C
  show ih_Mw x w ih_shX A (ih_Qi x w ih_shX A _) 2 0 0 0 [(0, .ref (w.2.2 60)), (1, .ref (w.2.2 (19 + 2 * k)))] [] S
  have hp := hX.1
  have hb0 := (hc 0 (by decide)).2
  have hb5 := (hc 5 (by decide)).2
  have hb6 := (hc 6 (by decide)).2
  refine s_aload_n C 0 dX0_sizeOfStrong_0 rfl ?_
  refine s_bipush (v := nI 12) C dX0_sizeOfStrong_1 (by decide) ?_
  refine s_callVv 1 C (c_X0_leave _ w _ _ hX hA2 12) gX0_sizeOfStrong_X0_leave rfl (by decide +kernel) (by decide) (by decide) (by decide) rfl (by decide) rfl rfl rfl (Nat.le_of_ble_eq_true rfl) dX0_sizeOfStrong_3 ?_
  rintro S hX
  have hp := hX.1
  refine s_aload_n C 0 dX0_sizeOfStrong_6 rfl ?_
  refine s_aload_n C 1 dX0_sizeOfStrong_7 rfl ?_
  refine s_callVi 1 C (c_X0_sizeOfSafe _ w _ _ hX (ih_bg_A hA2) k hk c (ih_bg_c hc)) gX0_sizeOfStrong_X0_sizeOfSafe rfl (by decide +kernel) (by decide) (by decide) (by decide) rfl (by decide) rfl rfl rfl (Nat.le_of_ble_eq_true rfl) dX0_sizeOfStrong_8 ?_
  rintro rq S ⟨hrq, hX⟩
  subst hrq
  have hp := hX.1
  refine s_iconst (v := nI 2) C dX0_sizeOfStrong_11 (by decide) ?_
  refine s_imulN C dX0_sizeOfStrong_12 ?_
  exact s_ireturn C hA dX0_sizeOfStrong_13 ⟨rfl, hX⟩

set_option maxHeartbeats 4000000 in
set_option maxRecDepth 100000 in
theorem c_X0_markLent (l : Launch) (w : ih_Wd) (S : ih_Sg) (T : ih_TT) (hX : ih_RX S T) (hA2 : ih_InvA T) (k : Nat) (hk : k < 12) (c : Nat → Nat) (hc : ∀ a, a < 7 → T 4 (7 * k + a) = nI (c a) ∧ c a ≤ 1000) : ih_Ci l yX0_markLent wsX0_markLent 1 w ih_shX [.ref (w.2.2 60), .ref (w.2.2 (19 + 2 * k))] S (fun r S' => r = nI (c 5) ∧ ih_RX S' (ih_bg T 20)) := by
  refine ih_bodyi (ret := some .int) rfl rfl (Nat.le_of_ble_eq_true rfl) ?_
  intro x A hA C
  have C : ih_Ok x w A cX0_markLent 2 RX0 wsX0_markLent (ih_rm 1) (some .int) := C
  show ih_Mw x w ih_shX A (ih_Qi x w ih_shX A _) 2 0 0 0 [(0, .ref (w.2.2 60)), (1, .ref (w.2.2 (19 + 2 * k)))] [] S
  have hp := hX.1
  have hb0 := (hc 0 (by decide)).2
  have hb5 := (hc 5 (by decide)).2
  have hb6 := (hc 6 (by decide)).2
  refine s_aload_n C 0 dX0_markLent_0 rfl ?_
  refine s_bipush (v := nI 20) C dX0_markLent_1 (by decide) ?_
  refine s_callVv 1 C (c_X0_leave _ w _ _ hX hA2 20) gX0_markLent_X0_leave rfl (by decide +kernel) (by decide) (by decide) (by decide) rfl (by decide) rfl rfl rfl (Nat.le_of_ble_eq_true rfl) dX0_markLent_3 ?_
  rintro S hX
  have hp := hX.1
  refine s_aload_n C 1 dX0_markLent_6 rfl ?_
  refine s_getR C 6 0 (hp _ _ _ (ih_pX_ch hk)) (by show 19 + 2 * k < 62; omega) (ih_kX_st hk) (by decide) rfl (fun _ h => List.mem_cons_of_mem _ (List.mem_append_left _ (List.mem_append_right _ h))) (by decide) rfl (by decide +kernel) dX0_markLent_7 ?_
  refine s_iconst (v := nI 5) C dX0_markLent_10 (by decide) ?_
  refine s_iaload C 6 (5) rfl (ih_lX_ch hk) (by decide) (by decide) (by show 20 + 2 * k < 62; omega) (ih_kX_ch hk) dX0_markLent_11 ?_
  refine s_toe (((hX.2.2.2.2.2.1 k hk).1 5 (by decide)).trans ((ih_bg_c hc) 5 (by decide)).1) ?_
  exact s_ireturn C hA dX0_markLent_12 ⟨rfl, hX⟩

set_option maxHeartbeats 4000000 in
set_option maxRecDepth 100000 in
theorem c_X0_markOfSafe (l : Launch) (w : ih_Wd) (S : ih_Sg) (T : ih_TT) (hX : ih_RX S T) (hA2 : ih_InvA T) (k : Nat) (hk : k < 12) (c : Nat → Nat) (hc : ∀ a, a < 7 → T 4 (7 * k + a) = nI (c a) ∧ c a ≤ 1000) : ih_Ci l yX0_markOfSafe wsX0_markOfSafe 2 w ih_shX [.ref (w.2.2 60), .ref (w.2.2 (19 + 2 * k))] S (fun r S' => r = nI (c 5 + 100) ∧ ih_RX S' (ih_bg (ih_bg T 21) 20)) := by
  refine ih_bodyi (ret := some .int) rfl rfl (Nat.le_of_ble_eq_true rfl) ?_
  intro x A hA C
  have C : ih_Ok x w A cX0_markOfSafe 2 RX0 wsX0_markOfSafe (ih_rm 2) (some .int) := C
  show ih_Mw x w ih_shX A (ih_Qi x w ih_shX A _) 2 0 0 0 [(0, .ref (w.2.2 60)), (1, .ref (w.2.2 (19 + 2 * k)))] [] S
  have hp := hX.1
  have hb0 := (hc 0 (by decide)).2
  have hb5 := (hc 5 (by decide)).2
  have hb6 := (hc 6 (by decide)).2
  refine s_aload_n C 0 dX0_markOfSafe_0 rfl ?_
  refine s_bipush (v := nI 21) C dX0_markOfSafe_1 (by decide) ?_
  refine s_callVv 1 C (c_X0_leave _ w _ _ hX hA2 21) gX0_markOfSafe_X0_leave rfl (by decide +kernel) (by decide) (by decide) (by decide) rfl (by decide) rfl rfl rfl (Nat.le_of_ble_eq_true rfl) dX0_markOfSafe_3 ?_
  rintro S hX
  have hp := hX.1
  refine s_aload_n C 0 dX0_markOfSafe_6 rfl ?_
  refine s_aload_n C 1 dX0_markOfSafe_7 rfl ?_
  refine s_callVi 1 C (c_X0_markLent _ w _ _ hX (ih_bg_A hA2) k hk c (ih_bg_c hc)) gX0_markOfSafe_X0_markLent rfl (by decide +kernel) (by decide) (by decide) (by decide) rfl (by decide) rfl rfl rfl (Nat.le_of_ble_eq_true rfl) dX0_markOfSafe_8 ?_
  rintro rq S ⟨hrq, hX⟩
  subst hrq
  have hp := hX.1
  refine s_bipush (v := nI 100) C dX0_markOfSafe_11 (by decide) ?_
  refine s_iaddN C dX0_markOfSafe_13 ?_
  exact s_ireturn C hA dX0_markOfSafe_14 ⟨rfl, hX⟩

set_option maxHeartbeats 4000000 in
set_option maxRecDepth 100000 in
theorem c_X0_markOfQuick (l : Launch) (w : ih_Wd) (S : ih_Sg) (T : ih_TT) (hX : ih_RX S T) (hA2 : ih_InvA T) (k : Nat) (hk : k < 12) (c : Nat → Nat) (hc : ∀ a, a < 7 → T 4 (7 * k + a) = nI (c a) ∧ c a ≤ 1000) : ih_Ci l yX0_markOfQuick wsX0_markOfQuick 2 w ih_shX [.ref (w.2.2 60), .ref (w.2.2 (19 + 2 * k))] S (fun r S' => r = nI (c 5 / 2) ∧ ih_RX S' (ih_bg (ih_bg T 23) 20)) := by
  refine ih_bodyi (ret := some .int) rfl rfl (Nat.le_of_ble_eq_true rfl) ?_
  intro x A hA C
  have C : ih_Ok x w A cX0_markOfQuick 2 RX0 wsX0_markOfQuick (ih_rm 2) (some .int) := C
  show ih_Mw x w ih_shX A (ih_Qi x w ih_shX A _) 2 0 0 0 [(0, .ref (w.2.2 60)), (1, .ref (w.2.2 (19 + 2 * k)))] [] S
  have hp := hX.1
  have hb0 := (hc 0 (by decide)).2
  have hb5 := (hc 5 (by decide)).2
  have hb6 := (hc 6 (by decide)).2
  refine s_aload_n C 0 dX0_markOfQuick_0 rfl ?_
  refine s_bipush (v := nI 23) C dX0_markOfQuick_1 (by decide) ?_
  refine s_callVv 1 C (c_X0_leave _ w _ _ hX hA2 23) gX0_markOfQuick_X0_leave rfl (by decide +kernel) (by decide) (by decide) (by decide) rfl (by decide) rfl rfl rfl (Nat.le_of_ble_eq_true rfl) dX0_markOfQuick_3 ?_
  rintro S hX
  have hp := hX.1
  refine s_aload_n C 0 dX0_markOfQuick_6 rfl ?_
  refine s_aload_n C 1 dX0_markOfQuick_7 rfl ?_
  refine s_callVi 1 C (c_X0_markLent _ w _ _ hX (ih_bg_A hA2) k hk c (ih_bg_c hc)) gX0_markOfQuick_X0_markLent rfl (by decide +kernel) (by decide) (by decide) (by decide) rfl (by decide) rfl rfl rfl (Nat.le_of_ble_eq_true rfl) dX0_markOfQuick_8 ?_
  rintro rq S ⟨hrq, hX⟩
  subst hrq
  have hp := hX.1
  refine s_iconst (v := nI 2) C dX0_markOfQuick_11 (by decide) ?_
  refine s_idivN C dX0_markOfQuick_12 (by omega) (by omega) (by omega) ?_
  exact s_ireturn C hA dX0_markOfQuick_13 ⟨rfl, hX⟩

set_option maxHeartbeats 4000000 in
set_option maxRecDepth 100000 in
theorem c_X0_sizeOf_2s (l : Launch) (w : ih_Wd) (S : ih_Sg) (T : ih_TT) (hX : ih_RX S T) (hA2 : ih_InvA T) (k : Nat) (hk : k < 12) (c : Nat → Nat) (hc : ∀ a, a < 7 → T 4 (7 * k + a) = nI (c a) ∧ c a ≤ 1000) (dp : Nat) (hdp : dp ≤ 4) (hkd : ih_kdc c = 2) : ih_Ci l yX0_sizeOf wsX0_sizeOf 5 w ih_shX [.ref (w.2.2 60), .ref (w.2.2 (19 + 2 * k)), .int (nI dp)] S (fun r S' => r = nI ((c 6 + 1000 - c 0) * 2) ∧ ih_RX S' (ih_bg (ih_bg (ih_bg T 12) 11) 10)) := by
  refine ih_bodyi (ret := some .int) rfl rfl (Nat.le_of_ble_eq_true rfl) ?_
  intro x A hA C
  have C : ih_Ok x w A cX0_sizeOf 3 RX0 wsX0_sizeOf (ih_rm 5) (some .int) := C
  show ih_Mw x w ih_shX A (ih_Qi x w ih_shX A _) 3 0 0 0 [(0, .ref (w.2.2 60)), (1, .ref (w.2.2 (19 + 2 * k))), (2, .int (nI dp))] [] S
  have hp := hX.1
  have hb0 := (hc 0 (by decide)).2
  have hb5 := (hc 5 (by decide)).2
  have hb6 := (hc 6 (by decide)).2
  refine s_iload_n C 2 dX0_sizeOf_0 rfl ?_
  refine s_iconst (v := nI 4) C dX0_sizeOf_1 (by decide) ?_
  refine s_icmp_leN 7 C dX0_sizeOf_2 (by decide) (by omega) (by omega) (fun h2 => ?_) (fun h2 => ?_)
  · refine s_aload_n C 1 dX0_sizeOf_7 rfl ?_
    refine s_callVi 0 C (c_X6_toldKind _ w _ hp k hk c (fun a ha => ⟨((hX.2.2.2.2.2.1 k hk).1 a ha).trans (hc a (by omega)).1, (hc a (by omega)).2⟩) ⟨(hX.2.2.2.2.2.1 k hk).2.trans (hc 6 (by decide)).1, (hc 6 (by decide)).2⟩) gX0_sizeOf_X6_toldKind rfl (by decide +kernel) (by decide) (by decide) (by show 19 + 2 * k < 62; omega) (ih_kX_st hk) (by decide) rfl rfl rfl (Nat.le_of_ble_eq_true rfl) dX0_sizeOf_8 ?_
    rintro rq S2 ⟨hrq, hSS⟩
    obtain rfl := hSS.symm
    rw [hkd] at hrq
    subst hrq
    refine s_tableIn (off := 25) C 36 dX0_sizeOf_11 (by decide) (by decide) (by decide) (by decide) ?_
    refine s_aload_n C 0 dX0_sizeOf_36 rfl ?_
    refine s_aload_n C 1 dX0_sizeOf_37 rfl ?_
    refine s_callVi 1 C (c_X0_sizeOfStrong _ w _ _ hX hA2 k hk c hc) gX0_sizeOf_X0_sizeOfStrong rfl (by decide +kernel) (by decide) (by decide) (by decide) rfl (by decide) rfl rfl rfl (Nat.le_of_ble_eq_true rfl) dX0_sizeOf_38 ?_
    rintro rq S ⟨hrq, hX⟩
    subst hrq
    have hp := hX.1
    exact s_ireturn C hA dX0_sizeOf_41 ⟨rfl, hX⟩
  · exfalso; omega

set_option maxHeartbeats 4000000 in
set_option maxRecDepth 100000 in
theorem c_X0_markOf_0 (l : Launch) (w : ih_Wd) (S : ih_Sg) (T : ih_TT) (hX : ih_RX S T) (hA2 : ih_InvA T) (k : Nat) (hk : k < 12) (c : Nat → Nat) (hc : ∀ a, a < 7 → T 4 (7 * k + a) = nI (c a) ∧ c a ≤ 1000) (dp : Nat) (hdp : dp ≤ 4) (hkd : ih_kdc c = 0) : ih_Ci l yX0_markOf wsX0_markOf 7 w ih_shX [.ref (w.2.2 60), .ref (w.2.2 (19 + 2 * k)), .int (nI dp)] S (fun r S' => r = nI (c 5) ∧ ih_RX S' (ih_bg T 20)) := by
  refine ih_bodyi (ret := some .int) rfl rfl (Nat.le_of_ble_eq_true rfl) ?_
  intro x A hA C
  have C : ih_Ok x w A cX0_markOf 3 RX0 wsX0_markOf (ih_rm 7) (some .int) := C
  show ih_Mw x w ih_shX A (ih_Qi x w ih_shX A _) 3 0 0 0 [(0, .ref (w.2.2 60)), (1, .ref (w.2.2 (19 + 2 * k))), (2, .int (nI dp))] [] S
  have hp := hX.1
  have hb0 := (hc 0 (by decide)).2
  have hb5 := (hc 5 (by decide)).2
  have hb6 := (hc 6 (by decide)).2
  refine s_iload_n C 2 dX0_markOf_0 rfl ?_
  refine s_iconst (v := nI 4) C dX0_markOf_1 (by decide) ?_
  refine s_icmp_leN 7 C dX0_markOf_2 (by decide) (by omega) (by omega) (fun h2 => ?_) (fun h2 => ?_)
  · refine s_aload_n C 1 dX0_markOf_7 rfl ?_
    refine s_callVi 0 C (c_X6_toldKind _ w _ hp k hk c (fun a ha => ⟨((hX.2.2.2.2.2.1 k hk).1 a ha).trans (hc a (by omega)).1, (hc a (by omega)).2⟩) ⟨(hX.2.2.2.2.2.1 k hk).2.trans (hc 6 (by decide)).1, (hc 6 (by decide)).2⟩) gX0_markOf_X6_toldKind rfl (by decide +kernel) (by decide) (by decide) (by show 19 + 2 * k < 62; omega) (ih_kX_st hk) (by decide) rfl rfl rfl (Nat.le_of_ble_eq_true rfl) dX0_markOf_8 ?_
    rintro rq S2 ⟨hrq, hSS⟩
    obtain rfl := hSS.symm
    rw [hkd] at hrq
    subst hrq
    refine s_tableOut C 55 dX0_markOf_11 (by decide) (by decide) ?_
    refine s_aload_n C 0 dX0_markOf_55 rfl ?_
    refine s_aload_n C 1 dX0_markOf_56 rfl ?_
    refine s_callVi 1 C (c_X0_markLent _ w _ _ hX hA2 k hk c hc) gX0_markOf_X0_markLent rfl (by decide +kernel) (by decide) (by decide) (by decide) rfl (by decide) rfl rfl rfl (Nat.le_of_ble_eq_true rfl) dX0_markOf_57 ?_
    rintro rq S ⟨hrq, hX⟩
    subst hrq
    have hp := hX.1
    exact s_ireturn C hA dX0_markOf_60 ⟨rfl, hX⟩
  · exfalso; omega

set_option maxHeartbeats 4000000 in
set_option maxRecDepth 100000 in
theorem c_X0_markOf_1 (l : Launch) (w : ih_Wd) (S : ih_Sg) (T : ih_TT) (hX : ih_RX S T) (hA2 : ih_InvA T) (k : Nat) (hk : k < 12) (c : Nat → Nat) (hc : ∀ a, a < 7 → T 4 (7 * k + a) = nI (c a) ∧ c a ≤ 1000) (dp : Nat) (hdp : dp ≤ 4) (hkd : ih_kdc c = 1) : ih_Ci l yX0_markOf wsX0_markOf 7 w ih_shX [.ref (w.2.2 60), .ref (w.2.2 (19 + 2 * k)), .int (nI dp)] S (fun r S' => r = nI (c 5 + 100) ∧ ih_RX S' (ih_bg (ih_bg T 21) 20)) := by
  refine ih_bodyi (ret := some .int) rfl rfl (Nat.le_of_ble_eq_true rfl) ?_
  intro x A hA C
  have C : ih_Ok x w A cX0_markOf 3 RX0 wsX0_markOf (ih_rm 7) (some .int) := C
  show ih_Mw x w ih_shX A (ih_Qi x w ih_shX A _) 3 0 0 0 [(0, .ref (w.2.2 60)), (1, .ref (w.2.2 (19 + 2 * k))), (2, .int (nI dp))] [] S
  have hp := hX.1
  have hb0 := (hc 0 (by decide)).2
  have hb5 := (hc 5 (by decide)).2
  have hb6 := (hc 6 (by decide)).2
  refine s_iload_n C 2 dX0_markOf_0 rfl ?_
  refine s_iconst (v := nI 4) C dX0_markOf_1 (by decide) ?_
  refine s_icmp_leN 7 C dX0_markOf_2 (by decide) (by omega) (by omega) (fun h2 => ?_) (fun h2 => ?_)
  · refine s_aload_n C 1 dX0_markOf_7 rfl ?_
    refine s_callVi 0 C (c_X6_toldKind _ w _ hp k hk c (fun a ha => ⟨((hX.2.2.2.2.2.1 k hk).1 a ha).trans (hc a (by omega)).1, (hc a (by omega)).2⟩) ⟨(hX.2.2.2.2.2.1 k hk).2.trans (hc 6 (by decide)).1, (hc 6 (by decide)).2⟩) gX0_markOf_X6_toldKind rfl (by decide +kernel) (by decide) (by decide) (by show 19 + 2 * k < 62; omega) (ih_kX_st hk) (by decide) rfl rfl rfl (Nat.le_of_ble_eq_true rfl) dX0_markOf_8 ?_
    rintro rq S2 ⟨hrq, hSS⟩
    obtain rfl := hSS.symm
    rw [hkd] at hrq
    subst hrq
    refine s_tableIn (off := 32) C 43 dX0_markOf_11 (by decide) (by decide) (by decide) (by decide) ?_
    refine s_aload_n C 0 dX0_markOf_43 rfl ?_
    refine s_aload_n C 1 dX0_markOf_44 rfl ?_
    refine s_callVi 1 C (c_X0_markOfSafe _ w _ _ hX hA2 k hk c hc) gX0_markOf_X0_markOfSafe rfl (by decide +kernel) (by decide) (by decide) (by decide) rfl (by decide) rfl rfl rfl (Nat.le_of_ble_eq_true rfl) dX0_markOf_45 ?_
    rintro rq S ⟨hrq, hX⟩
    subst hrq
    have hp := hX.1
    exact s_ireturn C hA dX0_markOf_48 ⟨rfl, hX⟩
  · exfalso; omega

set_option maxHeartbeats 4000000 in
set_option maxRecDepth 100000 in
theorem c_X0_markOf_3 (l : Launch) (w : ih_Wd) (S : ih_Sg) (T : ih_TT) (hX : ih_RX S T) (hA2 : ih_InvA T) (k : Nat) (hk : k < 12) (c : Nat → Nat) (hc : ∀ a, a < 7 → T 4 (7 * k + a) = nI (c a) ∧ c a ≤ 1000) (dp : Nat) (hdp : dp ≤ 4) (hkd : ih_kdc c = 3) : ih_Ci l yX0_markOf wsX0_markOf 7 w ih_shX [.ref (w.2.2 60), .ref (w.2.2 (19 + 2 * k)), .int (nI dp)] S (fun r S' => r = nI (c 5 / 2) ∧ ih_RX S' (ih_bg (ih_bg T 23) 20)) := by
  refine ih_bodyi (ret := some .int) rfl rfl (Nat.le_of_ble_eq_true rfl) ?_
  intro x A hA C
  have C : ih_Ok x w A cX0_markOf 3 RX0 wsX0_markOf (ih_rm 7) (some .int) := C
  show ih_Mw x w ih_shX A (ih_Qi x w ih_shX A _) 3 0 0 0 [(0, .ref (w.2.2 60)), (1, .ref (w.2.2 (19 + 2 * k))), (2, .int (nI dp))] [] S
  have hp := hX.1
  have hb0 := (hc 0 (by decide)).2
  have hb5 := (hc 5 (by decide)).2
  have hb6 := (hc 6 (by decide)).2
  refine s_iload_n C 2 dX0_markOf_0 rfl ?_
  refine s_iconst (v := nI 4) C dX0_markOf_1 (by decide) ?_
  refine s_icmp_leN 7 C dX0_markOf_2 (by decide) (by omega) (by omega) (fun h2 => ?_) (fun h2 => ?_)
  · refine s_aload_n C 1 dX0_markOf_7 rfl ?_
    refine s_callVi 0 C (c_X6_toldKind _ w _ hp k hk c (fun a ha => ⟨((hX.2.2.2.2.2.1 k hk).1 a ha).trans (hc a (by omega)).1, (hc a (by omega)).2⟩) ⟨(hX.2.2.2.2.2.1 k hk).2.trans (hc 6 (by decide)).1, (hc 6 (by decide)).2⟩) gX0_markOf_X6_toldKind rfl (by decide +kernel) (by decide) (by decide) (by show 19 + 2 * k < 62; omega) (ih_kX_st hk) (by decide) rfl rfl rfl (Nat.le_of_ble_eq_true rfl) dX0_markOf_8 ?_
    rintro rq S2 ⟨hrq, hSS⟩
    obtain rfl := hSS.symm
    rw [hkd] at hrq
    subst hrq
    refine s_tableIn (off := 38) C 49 dX0_markOf_11 (by decide) (by decide) (by decide) (by decide) ?_
    refine s_aload_n C 0 dX0_markOf_49 rfl ?_
    refine s_aload_n C 1 dX0_markOf_50 rfl ?_
    refine s_callVi 1 C (c_X0_markOfQuick _ w _ _ hX hA2 k hk c hc) gX0_markOf_X0_markOfQuick rfl (by decide +kernel) (by decide) (by decide) (by decide) rfl (by decide) rfl rfl rfl (Nat.le_of_ble_eq_true rfl) dX0_markOf_51 ?_
    rintro rq S ⟨hrq, hX⟩
    subst hrq
    have hp := hX.1
    exact s_ireturn C hA dX0_markOf_54 ⟨rfl, hX⟩
  · exfalso; omega

set_option maxHeartbeats 4000000 in
set_option maxRecDepth 100000 in
theorem c_X0_markOfStrong (l : Launch) (w : ih_Wd) (S : ih_Sg) (T : ih_TT) (hX : ih_RX S T) (hA2 : ih_InvA T) (k : Nat) (hk : k < 12) (c : Nat → Nat) (hc : ∀ a, a < 7 → T 4 (7 * k + a) = nI (c a) ∧ c a ≤ 1000) (dp : Nat) (hdp : dp ≤ 3) (hkd : ih_kdc c = 2) : ih_Ci l yX0_markOfStrong wsX0_markOfStrong 6 w ih_shX [.ref (w.2.2 60), .ref (w.2.2 (19 + 2 * k)), .int (nI dp)] S (fun r S' => r = nI (c 5 + 100 + (c 6 + 1000 - c 0) * 2) ∧ ih_RX S' (ih_bg (ih_bg (ih_bg (ih_bg (ih_bg (ih_bg T 22) 21) 20) 12) 11) 10)) := by
  refine ih_bodyi (ret := some .int) rfl rfl (Nat.le_of_ble_eq_true rfl) ?_
  intro x A hA C
  have C : ih_Ok x w A cX0_markOfStrong 4 RX0 wsX0_markOfStrong (ih_rm 6) (some .int) := C
  show ih_Mw x w ih_shX A (ih_Qi x w ih_shX A _) 4 0 0 0 [(0, .ref (w.2.2 60)), (1, .ref (w.2.2 (19 + 2 * k))), (2, .int (nI dp))] [] S
  have hp := hX.1
  have hb0 := (hc 0 (by decide)).2
  have hb5 := (hc 5 (by decide)).2
  have hb6 := (hc 6 (by decide)).2
  refine s_aload_n C 0 dX0_markOfStrong_0 rfl ?_
  refine s_bipush (v := nI 22) C dX0_markOfStrong_1 (by decide) ?_
  refine s_callVv 1 C (c_X0_leave _ w _ _ hX hA2 22) gX0_markOfStrong_X0_leave rfl (by decide +kernel) (by decide) (by decide) (by decide) rfl (by decide) rfl rfl rfl (Nat.le_of_ble_eq_true rfl) dX0_markOfStrong_3 ?_
  rintro S hX
  have hp := hX.1
  refine s_aload_n C 0 dX0_markOfStrong_6 rfl ?_
  refine s_aload_n C 1 dX0_markOfStrong_7 rfl ?_
  refine s_callVi 1 C (c_X0_markOfSafe _ w _ _ hX (ih_bg_A hA2) k hk c (ih_bg_c hc)) gX0_markOfStrong_X0_markOfSafe rfl (by decide +kernel) (by decide) (by decide) (by decide) rfl (by decide) rfl rfl rfl (Nat.le_of_ble_eq_true rfl) dX0_markOfStrong_8 ?_
  rintro rq S ⟨hrq, hX⟩
  subst hrq
  have hp := hX.1
  refine s_istore_n (lv' := [(3, .int (nI (c 5 + 100))), (0, .ref (w.2.2 60)), (1, .ref (w.2.2 (19 + 2 * k))), (2, .int (nI dp))]) C dX0_markOfStrong_11 rfl (by decide) rfl ?_
  refine s_iload_n C 0 dX0_markOfStrong_12 rfl ?_
  refine s_aload_n C 1 dX0_markOfStrong_13 rfl ?_
  refine s_aload_n C 2 dX0_markOfStrong_14 rfl ?_
  refine s_iload_n C 3 dX0_markOfStrong_15 rfl ?_
  refine s_iconst (v := nI 1) C dX0_markOfStrong_16 (by decide) ?_
  refine s_iaddN C dX0_markOfStrong_17 ?_
  refine s_callVi 2 C (c_X0_sizeOf_2s _ w _ _ hX (ih_bg_A (ih_bg_A (ih_bg_A hA2))) k hk c (ih_bg_c (ih_bg_c (ih_bg_c hc))) (dp + 1) (by omega) hkd) gX0_markOfStrong_X0_sizeOf rfl (by decide +kernel) (by decide) (by decide) (by decide) rfl (by decide) rfl rfl rfl (Nat.le_of_ble_eq_true rfl) dX0_markOfStrong_18 ?_
  rintro rq S ⟨hrq, hX⟩
  subst hrq
  have hp := hX.1
  refine s_iaddN C dX0_markOfStrong_21 ?_
  exact s_ireturn C hA dX0_markOfStrong_22 ⟨rfl, hX⟩

set_option maxHeartbeats 4000000 in
set_option maxRecDepth 100000 in
theorem c_X0_sizeOfQuick (l : Launch) (w : ih_Wd) (S : ih_Sg) (T : ih_TT) (hX : ih_RX S T) (hA2 : ih_InvA T) (k : Nat) (hk : k < 12) (c : Nat → Nat) (hc : ∀ a, a < 7 → T 4 (7 * k + a) = nI (c a) ∧ c a ≤ 1000) (dp : Nat) (hdp : dp ≤ 3) (hkd : ih_kdc c = 3) (hq : c 5 / 2 ≤ c 6) : ih_Ci l yX0_sizeOfQuick wsX0_sizeOfQuick 8 w ih_shX [.ref (w.2.2 60), .ref (w.2.2 (19 + 2 * k)), .int (nI dp)] S (fun r S' => r = nI (c 6 - c 5 / 2) ∧ ih_RX S' (ih_bg (ih_bg (ih_bg (ih_bg T 13) 10) 23) 20)) := by
  refine ih_bodyi (ret := some .int) rfl rfl (Nat.le_of_ble_eq_true rfl) ?_
  intro x A hA C
  have C : ih_Ok x w A cX0_sizeOfQuick 4 RX0 wsX0_sizeOfQuick (ih_rm 8) (some .int) := C
  show ih_Mw x w ih_shX A (ih_Qi x w ih_shX A _) 4 0 0 0 [(0, .ref (w.2.2 60)), (1, .ref (w.2.2 (19 + 2 * k))), (2, .int (nI dp))] [] S
  have hp := hX.1
  have hb0 := (hc 0 (by decide)).2
  have hb5 := (hc 5 (by decide)).2
  have hb6 := (hc 6 (by decide)).2
  refine s_aload_n C 0 dX0_sizeOfQuick_0 rfl ?_
  refine s_bipush (v := nI 13) C dX0_sizeOfQuick_1 (by decide) ?_
  refine s_callVv 1 C (c_X0_leave _ w _ _ hX hA2 13) gX0_sizeOfQuick_X0_leave rfl (by decide +kernel) (by decide) (by decide) (by decide) rfl (by decide) rfl rfl rfl (Nat.le_of_ble_eq_true rfl) dX0_sizeOfQuick_3 ?_
  rintro S hX
  have hp := hX.1
  refine s_aload_n C 0 dX0_sizeOfQuick_6 rfl ?_
  refine s_aload_n C 1 dX0_sizeOfQuick_7 rfl ?_
  refine s_callVi 1 C (c_X0_sizeLent _ w _ _ hX (ih_bg_A hA2) k hk c (ih_bg_c hc)) gX0_sizeOfQuick_X0_sizeLent rfl (by decide +kernel) (by decide) (by decide) (by decide) rfl (by decide) rfl rfl rfl (Nat.le_of_ble_eq_true rfl) dX0_sizeOfQuick_8 ?_
  rintro rq S ⟨hrq, hX⟩
  subst hrq
  have hp := hX.1
  refine s_istore_n (lv' := [(3, .int (nI (c 6))), (0, .ref (w.2.2 60)), (1, .ref (w.2.2 (19 + 2 * k))), (2, .int (nI dp))]) C dX0_sizeOfQuick_11 rfl (by decide) rfl ?_
  refine s_iload_n C 0 dX0_sizeOfQuick_12 rfl ?_
  refine s_aload_n C 1 dX0_sizeOfQuick_13 rfl ?_
  refine s_aload_n C 2 dX0_sizeOfQuick_14 rfl ?_
  refine s_iload_n C 3 dX0_sizeOfQuick_15 rfl ?_
  refine s_iconst (v := nI 1) C dX0_sizeOfQuick_16 (by decide) ?_
  refine s_iaddN C dX0_sizeOfQuick_17 ?_
  refine s_callVi 2 C (c_X0_markOf_3 _ w _ _ hX (ih_bg_A (ih_bg_A hA2)) k hk c (ih_bg_c (ih_bg_c hc)) (dp + 1) (by omega) hkd) gX0_sizeOfQuick_X0_markOf rfl (by decide +kernel) (by decide) (by decide) (by decide) rfl (by decide) rfl rfl rfl (Nat.le_of_ble_eq_true rfl) dX0_sizeOfQuick_18 ?_
  rintro rq S ⟨hrq, hX⟩
  subst hrq
  have hp := hX.1
  refine s_isubN C dX0_sizeOfQuick_21 (by omega) ?_
  exact s_ireturn C hA dX0_sizeOfQuick_22 ⟨rfl, hX⟩

set_option maxHeartbeats 4000000 in
set_option maxRecDepth 100000 in
theorem c_X0_markOf_2 (l : Launch) (w : ih_Wd) (S : ih_Sg) (T : ih_TT) (hX : ih_RX S T) (hA2 : ih_InvA T) (k : Nat) (hk : k < 12) (c : Nat → Nat) (hc : ∀ a, a < 7 → T 4 (7 * k + a) = nI (c a) ∧ c a ≤ 1000) (dp : Nat) (hdp : dp ≤ 3) (hkd : ih_kdc c = 2) : ih_Ci l yX0_markOf wsX0_markOf 7 w ih_shX [.ref (w.2.2 60), .ref (w.2.2 (19 + 2 * k)), .int (nI dp)] S (fun r S' => r = nI (c 5 + 100 + (c 6 + 1000 - c 0) * 2) ∧ ih_RX S' (ih_bg (ih_bg (ih_bg (ih_bg (ih_bg (ih_bg T 22) 21) 20) 12) 11) 10)) := by
  refine ih_bodyi (ret := some .int) rfl rfl (Nat.le_of_ble_eq_true rfl) ?_
  intro x A hA C
  have C : ih_Ok x w A cX0_markOf 3 RX0 wsX0_markOf (ih_rm 7) (some .int) := C
  show ih_Mw x w ih_shX A (ih_Qi x w ih_shX A _) 3 0 0 0 [(0, .ref (w.2.2 60)), (1, .ref (w.2.2 (19 + 2 * k))), (2, .int (nI dp))] [] S
  have hp := hX.1
  have hb0 := (hc 0 (by decide)).2
  have hb5 := (hc 5 (by decide)).2
  have hb6 := (hc 6 (by decide)).2
  refine s_iload_n C 2 dX0_markOf_0 rfl ?_
  refine s_iconst (v := nI 4) C dX0_markOf_1 (by decide) ?_
  refine s_icmp_leN 7 C dX0_markOf_2 (by decide) (by omega) (by omega) (fun h2 => ?_) (fun h2 => ?_)
  · refine s_aload_n C 1 dX0_markOf_7 rfl ?_
    refine s_callVi 0 C (c_X6_toldKind _ w _ hp k hk c (fun a ha => ⟨((hX.2.2.2.2.2.1 k hk).1 a ha).trans (hc a (by omega)).1, (hc a (by omega)).2⟩) ⟨(hX.2.2.2.2.2.1 k hk).2.trans (hc 6 (by decide)).1, (hc 6 (by decide)).2⟩) gX0_markOf_X6_toldKind rfl (by decide +kernel) (by decide) (by decide) (by show 19 + 2 * k < 62; omega) (ih_kX_st hk) (by decide) rfl rfl rfl (Nat.le_of_ble_eq_true rfl) dX0_markOf_8 ?_
    rintro rq S2 ⟨hrq, hSS⟩
    obtain rfl := hSS.symm
    rw [hkd] at hrq
    subst hrq
    refine s_tableIn (off := 25) C 36 dX0_markOf_11 (by decide) (by decide) (by decide) (by decide) ?_
    refine s_aload_n C 0 dX0_markOf_36 rfl ?_
    refine s_aload_n C 1 dX0_markOf_37 rfl ?_
    refine s_iload_n C 2 dX0_markOf_38 rfl ?_
    refine s_callVi 2 C (c_X0_markOfStrong _ w _ _ hX hA2 k hk c hc dp hdp hkd) gX0_markOf_X0_markOfStrong rfl (by decide +kernel) (by decide) (by decide) (by decide) rfl (by decide) rfl rfl rfl (Nat.le_of_ble_eq_true rfl) dX0_markOf_39 ?_
    rintro rq S ⟨hrq, hX⟩
    subst hrq
    have hp := hX.1
    exact s_ireturn C hA dX0_markOf_42 ⟨rfl, hX⟩
  · exfalso; omega

set_option maxHeartbeats 4000000 in
set_option maxRecDepth 100000 in
theorem c_X0_sizeOf_0 (l : Launch) (w : ih_Wd) (S : ih_Sg) (T : ih_TT) (hX : ih_RX S T) (hA2 : ih_InvA T) (k : Nat) (hk : k < 12) (c : Nat → Nat) (hc : ∀ a, a < 7 → T 4 (7 * k + a) = nI (c a) ∧ c a ≤ 1000) (dp : Nat) (hdp : dp ≤ 3) (hkd : ih_kdc c = 0) : ih_Ci l yX0_sizeOf wsX0_sizeOf 9 w ih_shX [.ref (w.2.2 60), .ref (w.2.2 (19 + 2 * k)), .int (nI dp)] S (fun r S' => r = nI (c 6) ∧ ih_RX S' (ih_bg T 10)) := by
  refine ih_bodyi (ret := some .int) rfl rfl (Nat.le_of_ble_eq_true rfl) ?_
  intro x A hA C
  have C : ih_Ok x w A cX0_sizeOf 3 RX0 wsX0_sizeOf (ih_rm 9) (some .int) := C
  show ih_Mw x w ih_shX A (ih_Qi x w ih_shX A _) 3 0 0 0 [(0, .ref (w.2.2 60)), (1, .ref (w.2.2 (19 + 2 * k))), (2, .int (nI dp))] [] S
  have hp := hX.1
  have hb0 := (hc 0 (by decide)).2
  have hb5 := (hc 5 (by decide)).2
  have hb6 := (hc 6 (by decide)).2
  refine s_iload_n C 2 dX0_sizeOf_0 rfl ?_
  refine s_iconst (v := nI 4) C dX0_sizeOf_1 (by decide) ?_
  refine s_icmp_leN 7 C dX0_sizeOf_2 (by decide) (by omega) (by omega) (fun h2 => ?_) (fun h2 => ?_)
  · refine s_aload_n C 1 dX0_sizeOf_7 rfl ?_
    refine s_callVi 0 C (c_X6_toldKind _ w _ hp k hk c (fun a ha => ⟨((hX.2.2.2.2.2.1 k hk).1 a ha).trans (hc a (by omega)).1, (hc a (by omega)).2⟩) ⟨(hX.2.2.2.2.2.1 k hk).2.trans (hc 6 (by decide)).1, (hc 6 (by decide)).2⟩) gX0_sizeOf_X6_toldKind rfl (by decide +kernel) (by decide) (by decide) (by show 19 + 2 * k < 62; omega) (ih_kX_st hk) (by decide) rfl rfl rfl (Nat.le_of_ble_eq_true rfl) dX0_sizeOf_8 ?_
    rintro rq S2 ⟨hrq, hSS⟩
    obtain rfl := hSS.symm
    rw [hkd] at hrq
    subst hrq
    refine s_tableOut C 55 dX0_sizeOf_11 (by decide) (by decide) ?_
    refine s_aload_n C 0 dX0_sizeOf_55 rfl ?_
    refine s_aload_n C 1 dX0_sizeOf_56 rfl ?_
    refine s_callVi 1 C (c_X0_sizeLent _ w _ _ hX hA2 k hk c hc) gX0_sizeOf_X0_sizeLent rfl (by decide +kernel) (by decide) (by decide) (by decide) rfl (by decide) rfl rfl rfl (Nat.le_of_ble_eq_true rfl) dX0_sizeOf_57 ?_
    rintro rq S ⟨hrq, hX⟩
    subst hrq
    have hp := hX.1
    exact s_ireturn C hA dX0_sizeOf_60 ⟨rfl, hX⟩
  · exfalso; omega

set_option maxHeartbeats 4000000 in
set_option maxRecDepth 100000 in
theorem c_X0_sizeOf_1 (l : Launch) (w : ih_Wd) (S : ih_Sg) (T : ih_TT) (hX : ih_RX S T) (hA2 : ih_InvA T) (k : Nat) (hk : k < 12) (c : Nat → Nat) (hc : ∀ a, a < 7 → T 4 (7 * k + a) = nI (c a) ∧ c a ≤ 1000) (dp : Nat) (hdp : dp ≤ 3) (hkd : ih_kdc c = 1) : ih_Ci l yX0_sizeOf wsX0_sizeOf 9 w ih_shX [.ref (w.2.2 60), .ref (w.2.2 (19 + 2 * k)), .int (nI dp)] S (fun r S' => r = nI (c 6 + 1000 - c 0) ∧ ih_RX S' (ih_bg (ih_bg T 11) 10)) := by
  refine ih_bodyi (ret := some .int) rfl rfl (Nat.le_of_ble_eq_true rfl) ?_
  intro x A hA C
  have C : ih_Ok x w A cX0_sizeOf 3 RX0 wsX0_sizeOf (ih_rm 9) (some .int) := C
  show ih_Mw x w ih_shX A (ih_Qi x w ih_shX A _) 3 0 0 0 [(0, .ref (w.2.2 60)), (1, .ref (w.2.2 (19 + 2 * k))), (2, .int (nI dp))] [] S
  have hp := hX.1
  have hb0 := (hc 0 (by decide)).2
  have hb5 := (hc 5 (by decide)).2
  have hb6 := (hc 6 (by decide)).2
  refine s_iload_n C 2 dX0_sizeOf_0 rfl ?_
  refine s_iconst (v := nI 4) C dX0_sizeOf_1 (by decide) ?_
  refine s_icmp_leN 7 C dX0_sizeOf_2 (by decide) (by omega) (by omega) (fun h2 => ?_) (fun h2 => ?_)
  · refine s_aload_n C 1 dX0_sizeOf_7 rfl ?_
    refine s_callVi 0 C (c_X6_toldKind _ w _ hp k hk c (fun a ha => ⟨((hX.2.2.2.2.2.1 k hk).1 a ha).trans (hc a (by omega)).1, (hc a (by omega)).2⟩) ⟨(hX.2.2.2.2.2.1 k hk).2.trans (hc 6 (by decide)).1, (hc 6 (by decide)).2⟩) gX0_sizeOf_X6_toldKind rfl (by decide +kernel) (by decide) (by decide) (by show 19 + 2 * k < 62; omega) (ih_kX_st hk) (by decide) rfl rfl rfl (Nat.le_of_ble_eq_true rfl) dX0_sizeOf_8 ?_
    rintro rq S2 ⟨hrq, hSS⟩
    obtain rfl := hSS.symm
    rw [hkd] at hrq
    subst hrq
    refine s_tableIn (off := 31) C 42 dX0_sizeOf_11 (by decide) (by decide) (by decide) (by decide) ?_
    refine s_aload_n C 0 dX0_sizeOf_42 rfl ?_
    refine s_aload_n C 1 dX0_sizeOf_43 rfl ?_
    refine s_callVi 1 C (c_X0_sizeOfSafe _ w _ _ hX hA2 k hk c hc) gX0_sizeOf_X0_sizeOfSafe rfl (by decide +kernel) (by decide) (by decide) (by decide) rfl (by decide) rfl rfl rfl (Nat.le_of_ble_eq_true rfl) dX0_sizeOf_44 ?_
    rintro rq S ⟨hrq, hX⟩
    subst hrq
    have hp := hX.1
    exact s_ireturn C hA dX0_sizeOf_47 ⟨rfl, hX⟩
  · exfalso; omega

set_option maxHeartbeats 4000000 in
set_option maxRecDepth 100000 in
theorem c_X0_sizeOf_2 (l : Launch) (w : ih_Wd) (S : ih_Sg) (T : ih_TT) (hX : ih_RX S T) (hA2 : ih_InvA T) (k : Nat) (hk : k < 12) (c : Nat → Nat) (hc : ∀ a, a < 7 → T 4 (7 * k + a) = nI (c a) ∧ c a ≤ 1000) (dp : Nat) (hdp : dp ≤ 3) (hkd : ih_kdc c = 2) : ih_Ci l yX0_sizeOf wsX0_sizeOf 9 w ih_shX [.ref (w.2.2 60), .ref (w.2.2 (19 + 2 * k)), .int (nI dp)] S (fun r S' => r = nI ((c 6 + 1000 - c 0) * 2) ∧ ih_RX S' (ih_bg (ih_bg (ih_bg T 12) 11) 10)) := by
  refine ih_bodyi (ret := some .int) rfl rfl (Nat.le_of_ble_eq_true rfl) ?_
  intro x A hA C
  have C : ih_Ok x w A cX0_sizeOf 3 RX0 wsX0_sizeOf (ih_rm 9) (some .int) := C
  show ih_Mw x w ih_shX A (ih_Qi x w ih_shX A _) 3 0 0 0 [(0, .ref (w.2.2 60)), (1, .ref (w.2.2 (19 + 2 * k))), (2, .int (nI dp))] [] S
  have hp := hX.1
  have hb0 := (hc 0 (by decide)).2
  have hb5 := (hc 5 (by decide)).2
  have hb6 := (hc 6 (by decide)).2
  refine s_iload_n C 2 dX0_sizeOf_0 rfl ?_
  refine s_iconst (v := nI 4) C dX0_sizeOf_1 (by decide) ?_
  refine s_icmp_leN 7 C dX0_sizeOf_2 (by decide) (by omega) (by omega) (fun h2 => ?_) (fun h2 => ?_)
  · refine s_aload_n C 1 dX0_sizeOf_7 rfl ?_
    refine s_callVi 0 C (c_X6_toldKind _ w _ hp k hk c (fun a ha => ⟨((hX.2.2.2.2.2.1 k hk).1 a ha).trans (hc a (by omega)).1, (hc a (by omega)).2⟩) ⟨(hX.2.2.2.2.2.1 k hk).2.trans (hc 6 (by decide)).1, (hc 6 (by decide)).2⟩) gX0_sizeOf_X6_toldKind rfl (by decide +kernel) (by decide) (by decide) (by show 19 + 2 * k < 62; omega) (ih_kX_st hk) (by decide) rfl rfl rfl (Nat.le_of_ble_eq_true rfl) dX0_sizeOf_8 ?_
    rintro rq S2 ⟨hrq, hSS⟩
    obtain rfl := hSS.symm
    rw [hkd] at hrq
    subst hrq
    refine s_tableIn (off := 25) C 36 dX0_sizeOf_11 (by decide) (by decide) (by decide) (by decide) ?_
    refine s_aload_n C 0 dX0_sizeOf_36 rfl ?_
    refine s_aload_n C 1 dX0_sizeOf_37 rfl ?_
    refine s_callVi 1 C (c_X0_sizeOfStrong _ w _ _ hX hA2 k hk c hc) gX0_sizeOf_X0_sizeOfStrong rfl (by decide +kernel) (by decide) (by decide) (by decide) rfl (by decide) rfl rfl rfl (Nat.le_of_ble_eq_true rfl) dX0_sizeOf_38 ?_
    rintro rq S ⟨hrq, hX⟩
    subst hrq
    have hp := hX.1
    exact s_ireturn C hA dX0_sizeOf_41 ⟨rfl, hX⟩
  · exfalso; omega

set_option maxHeartbeats 4000000 in
set_option maxRecDepth 100000 in
theorem c_X0_sizeOf_3 (l : Launch) (w : ih_Wd) (S : ih_Sg) (T : ih_TT) (hX : ih_RX S T) (hA2 : ih_InvA T) (k : Nat) (hk : k < 12) (c : Nat → Nat) (hc : ∀ a, a < 7 → T 4 (7 * k + a) = nI (c a) ∧ c a ≤ 1000) (dp : Nat) (hdp : dp ≤ 3) (hkd : ih_kdc c = 3) (hq : c 5 / 2 ≤ c 6) : ih_Ci l yX0_sizeOf wsX0_sizeOf 9 w ih_shX [.ref (w.2.2 60), .ref (w.2.2 (19 + 2 * k)), .int (nI dp)] S (fun r S' => r = nI (c 6 - c 5 / 2) ∧ ih_RX S' (ih_bg (ih_bg (ih_bg (ih_bg T 13) 10) 23) 20)) := by
  refine ih_bodyi (ret := some .int) rfl rfl (Nat.le_of_ble_eq_true rfl) ?_
  intro x A hA C
  have C : ih_Ok x w A cX0_sizeOf 3 RX0 wsX0_sizeOf (ih_rm 9) (some .int) := C
  show ih_Mw x w ih_shX A (ih_Qi x w ih_shX A _) 3 0 0 0 [(0, .ref (w.2.2 60)), (1, .ref (w.2.2 (19 + 2 * k))), (2, .int (nI dp))] [] S
  have hp := hX.1
  have hb0 := (hc 0 (by decide)).2
  have hb5 := (hc 5 (by decide)).2
  have hb6 := (hc 6 (by decide)).2
  refine s_iload_n C 2 dX0_sizeOf_0 rfl ?_
  refine s_iconst (v := nI 4) C dX0_sizeOf_1 (by decide) ?_
  refine s_icmp_leN 7 C dX0_sizeOf_2 (by decide) (by omega) (by omega) (fun h2 => ?_) (fun h2 => ?_)
  · refine s_aload_n C 1 dX0_sizeOf_7 rfl ?_
    refine s_callVi 0 C (c_X6_toldKind _ w _ hp k hk c (fun a ha => ⟨((hX.2.2.2.2.2.1 k hk).1 a ha).trans (hc a (by omega)).1, (hc a (by omega)).2⟩) ⟨(hX.2.2.2.2.2.1 k hk).2.trans (hc 6 (by decide)).1, (hc 6 (by decide)).2⟩) gX0_sizeOf_X6_toldKind rfl (by decide +kernel) (by decide) (by decide) (by show 19 + 2 * k < 62; omega) (ih_kX_st hk) (by decide) rfl rfl rfl (Nat.le_of_ble_eq_true rfl) dX0_sizeOf_8 ?_
    rintro rq S2 ⟨hrq, hSS⟩
    obtain rfl := hSS.symm
    rw [hkd] at hrq
    subst hrq
    refine s_tableIn (off := 37) C 48 dX0_sizeOf_11 (by decide) (by decide) (by decide) (by decide) ?_
    refine s_aload_n C 0 dX0_sizeOf_48 rfl ?_
    refine s_aload_n C 1 dX0_sizeOf_49 rfl ?_
    refine s_iload_n C 2 dX0_sizeOf_50 rfl ?_
    refine s_callVi 2 C (c_X0_sizeOfQuick _ w _ _ hX hA2 k hk c hc dp hdp hkd hq) gX0_sizeOf_X0_sizeOfQuick rfl (by decide +kernel) (by decide) (by decide) (by decide) rfl (by decide) rfl rfl rfl (Nat.le_of_ble_eq_true rfl) dX0_sizeOf_51 ?_
    rintro rq S ⟨hrq, hX⟩
    subst hrq
    have hp := hX.1
    exact s_ireturn C hA dX0_sizeOf_54 ⟨rfl, hX⟩
  · exfalso; omega

theorem c_X0_sizeOf (l : Launch) (w : ih_Wd) (S : ih_Sg) (T : ih_TT) (hX : ih_RX S T) (hA2 : ih_InvA T) (k : Nat) (hk : k < 12) (c : Nat → Nat) (hc : ∀ a, a < 7 → T 4 (7 * k + a) = nI (c a) ∧ c a ≤ 1000) (hq : ih_kdc c = 3 → c 5 / 2 ≤ c 6) : ih_Ci l yX0_sizeOf wsX0_sizeOf 9 w ih_shX [.ref (w.2.2 60), .ref (w.2.2 (19 + 2 * k)), .int (nI 0)] S (fun r S' => r = nI (ih_vlZ c (ih_kdc c)) ∧ ih_RX S' (ih_trZ T (ih_kdc c))) := by
  rcases ih_a4 (ih_kdc_lt c) with h | h | h | h
  · rw [h, ih_vlZ_0, ih_trZ_0]; exact c_X0_sizeOf_0 l w S T hX hA2 k hk c hc 0 (by decide) h
  · rw [h, ih_vlZ_1, ih_trZ_1, ih_vlS_1, ih_trS_1]; exact c_X0_sizeOf_1 l w S T hX hA2 k hk c hc 0 (by decide) h
  · rw [h, ih_vlZ_2, ih_trZ_2, ih_vlS_2, ih_trS_2, Nat.mul_comm 2 (c 6 + 1000 - c 0)]; exact c_X0_sizeOf_2 l w S T hX hA2 k hk c hc 0 (by decide) h
  · rw [h, ih_vlZ_3, ih_trZ_3, ih_trM_3]; exact c_X0_sizeOf_3 l w S T hX hA2 k hk c hc 0 (by decide) h (hq h)
theorem c_X0_markOf (l : Launch) (w : ih_Wd) (S : ih_Sg) (T : ih_TT) (hX : ih_RX S T) (hA2 : ih_InvA T) (k : Nat) (hk : k < 12) (c : Nat → Nat) (hc : ∀ a, a < 7 → T 4 (7 * k + a) = nI (c a) ∧ c a ≤ 1000) : ih_Ci l yX0_markOf wsX0_markOf 7 w ih_shX [.ref (w.2.2 60), .ref (w.2.2 (19 + 2 * k)), .int (nI 0)] S (fun r S' => r = nI (ih_vlM c (ih_kdc c)) ∧ ih_RX S' (ih_trM T (ih_kdc c))) := by
  rcases ih_a4 (ih_kdc_lt c) with h | h | h | h
  · rw [h, ih_vlM_0, ih_trM_0]; exact c_X0_markOf_0 l w S T hX hA2 k hk c hc 0 (by decide) h
  · rw [h, ih_vlM_1, ih_trM_1]; exact c_X0_markOf_1 l w S T hX hA2 k hk c hc 0 (by decide) h
  · rw [h, ih_vlM_2, ih_trM_2, ih_vlS_2, ih_trS_2, Nat.mul_comm 2 (c 6 + 1000 - c 0)]; exact c_X0_markOf_2 l w S T hX hA2 k hk c hc 0 (by decide) h
  · rw [h, ih_vlM_3, ih_trM_3]; exact c_X0_markOf_3 l w S T hX hA2 k hk c hc 0 (by decide) h
set_option maxHeartbeats 4000000 in
set_option maxRecDepth 100000 in
theorem c_X7_ask (l : Launch) (w : ih_Wd) (S : ih_Sg) (T : ih_TT) (hX : ih_RX S T) (hI : ih_Inv T) (k w_ : Int32) : ih_Ci l yX7_ask wsX7_ask 10 w ih_shX [.ref (w.2.2 0), .int k, .int w_] S (fun r S' => r = (sp_ask T k w_).1 ∧ ih_RX S' (sp_ask T k w_).2) := by
  refine ih_bodyi (ret := some .int) rfl rfl (Nat.le_of_ble_eq_true rfl) ?_
  intro x A hA C
  have C : ih_Ok x w A cX7_ask 3 RX7 wsX7_ask (ih_rm 10) (some .int) := C
  show ih_Mw x w ih_shX A (ih_Qi x w ih_shX A _) 3 0 0 0 [(0, .ref (w.2.2 0)), (1, .int k), (2, .int w_)] [] S
  have hct : ih_ct T ≤ 12 := hI.2.1.2.1
  have hp := hX.1
  refine s_aload_n C 0 dX7_ask_0 rfl ?_
  refine s_iload_n C 1 dX7_ask_1 rfl ?_
  refine s_callVi 1 C (c_X7_isStriker _ w _ (ih_ct T) hct (ih_RX_ct hX hI) _) gX7_ask_X7_isStriker rfl (by decide +kernel) (by decide) (by decide) (by decide) rfl (by decide) rfl rfl rfl (Nat.le_of_ble_eq_true rfl) dX7_ask_2 ?_
  rintro rk2 S2 ⟨hrk2, hSS⟩
  obtain rfl := hSS.symm
  refine s_if_eq C 17 dX7_ask_5 (by decide) (fun h5 => ?_) (fun h5 => ?_)
  · replace h5 := ih_b0 hrk2 h5
    refine s_ldc (v := (-1000001)) C (by decide +kernel) dX7_ask_17 ?_
    exact s_ireturn C hA dX7_ask_19 (by rw [sp_ask, if_neg (by omega)]; exact ⟨rfl, hX⟩)
  · replace h5 := ih_b1 hrk2 h5
    refine s_iload_n C 2 dX7_ask_8 rfl ?_
    refine s_iconst (v := nI 0) C dX7_ask_9 (by decide) ?_
    refine s_iconst (v := nI 1) C dX7_ask_10 (by decide) ?_
    refine s_callSi 3 C (c_X7_within _ w _ _ _ _ _) gX7_ask_X7_within rfl (by decide +kernel) (by decide) (by decide) rfl rfl (Nat.le_of_ble_eq_true rfl) dX7_ask_11 ?_
    rintro rw11 S2 ⟨hrw11, hSS⟩
    obtain rfl := hSS.symm
    rw [ih_t (by decide), ih_t (by decide)] at hrw11
    refine s_if_ne C 20 dX7_ask_14 (by decide) (fun h14 => ?_) (fun h14 => ?_)
    · replace h14 := ih_b1 hrw11 h14
      obtain ⟨kn, hkn, rfl, hknt⟩ := ih_nat (a := k) h5.1
      have hkn12 : kn < 12 := by omega
      have hkct : kn < ih_ct T := by omega
      refine s_aload_n C 0 dX7_ask_20 rfl ?_
      refine s_getR C 7 7 (hp _ _ _ rfl) (by decide) rfl (by decide) rfl (fun _ h => List.mem_cons_of_mem _ (List.mem_append_left _ (List.mem_append_left _ (List.mem_append_right _ h)))) (by decide) rfl (by decide +kernel) dX7_ask_21 ?_
      refine s_iconst (v := nI 0) C dX7_ask_24 (by decide) ?_
      refine s_putI (ty := .int) C 0 1 tyX0 tyX0_ok nmX0 (by decide) rfl (by decide) rfl (fun _ h => List.mem_cons_of_mem _ (List.mem_append_left _ (List.mem_append_right _ h))) (by decide) rfl (by decide +kernel) rfl (by decide +kernel) rfl rfl dX7_ask_25 ?_
      refine s_iload_n C 2 dX7_ask_28 rfl ?_
      refine s_if_ne C 49 dX7_ask_29 (by decide) (fun h29 => ?_) (fun h29 => ?_)
      · refine s_aload_n C 0 dX7_ask_49 rfl ?_
        refine s_getR C 7 7 (hp _ _ _ rfl) (by decide) rfl (by decide) rfl (fun _ h => List.mem_cons_of_mem _ (List.mem_append_left _ (List.mem_append_left _ (List.mem_append_right _ h)))) (by decide) rfl (by decide +kernel) dX7_ask_50 ?_
        refine s_aload_n C 0 dX7_ask_53 rfl ?_
        refine s_getR C 7 1 (hp _ _ _ rfl) (by decide) rfl (by decide) rfl (fun _ h => List.mem_cons_of_mem _ (List.mem_append_left _ (List.mem_append_left _ (List.mem_append_right _ h)))) (by decide) rfl (by decide +kernel) dX7_ask_54 ?_
        refine s_iload_n C 1 dX7_ask_57 rfl ?_
        refine s_aaload C 12 (kn) (hp _ _ _ (ih_pX_st hkn12)) rfl rfl (by omega) (by decide) (by decide) rfl (by decide) dX7_ask_58 ?_
        refine s_iconst (v := nI 0) C dX7_ask_59 (by decide) ?_
        refine s_callVNi 2 C (c_X0_markOf _ w _ _ (ih_RX_t0 hX) (ih_Inv_t0 hI).2.2.2.2 kn hkn12 (ih_ch T kn) (ih_Inv_c hI hkct)) gX7_ask_X0_markOf_n221 C.2.1.2.2.2.2.2.2 (by decide +kernel) (by decide +kernel) (by decide +kernel) rfl (by decide +kernel) (by decide) (by decide) (by decide) rfl (by decide) rfl rfl rfl (Nat.le_of_ble_eq_true rfl) dX7_ask_60 ?_
        rintro rr S ⟨hrr, hX⟩
        exact s_ireturn C hA dX7_ask_63 (by rw [sp_ask, if_pos (by omega), ih_n_nI hkn, if_neg h29]; exact ⟨hrr, hX⟩)
      · refine s_aload_n C 0 dX7_ask_32 rfl ?_
        refine s_getR C 7 7 (hp _ _ _ rfl) (by decide) rfl (by decide) rfl (fun _ h => List.mem_cons_of_mem _ (List.mem_append_left _ (List.mem_append_left _ (List.mem_append_right _ h)))) (by decide) rfl (by decide +kernel) dX7_ask_33 ?_
        refine s_aload_n C 0 dX7_ask_36 rfl ?_
        refine s_getR C 7 1 (hp _ _ _ rfl) (by decide) rfl (by decide) rfl (fun _ h => List.mem_cons_of_mem _ (List.mem_append_left _ (List.mem_append_left _ (List.mem_append_right _ h)))) (by decide) rfl (by decide +kernel) dX7_ask_37 ?_
        refine s_iload_n C 1 dX7_ask_40 rfl ?_
        refine s_aaload C 12 (kn) (hp _ _ _ (ih_pX_st hkn12)) rfl rfl (by omega) (by decide) (by decide) rfl (by decide) dX7_ask_41 ?_
        refine s_iconst (v := nI 0) C dX7_ask_42 (by decide) ?_
        refine s_callVNi 2 C (c_X0_sizeOf _ w _ _ (ih_RX_t0 hX) (ih_Inv_t0 hI).2.2.2.2 kn hkn12 (ih_ch T kn) (ih_Inv_c hI hkct) (fun h3 => ih_quick hI hkct h3)) gX7_ask_X0_sizeOf_n217 C.2.1.2.2.2.2.2.1 (by decide +kernel) (by decide +kernel) (by decide +kernel) rfl (by decide +kernel) (by decide) (by decide) (by decide) rfl (by decide) rfl rfl rfl (Nat.le_of_ble_eq_true rfl) dX7_ask_43 ?_
        rintro rr S ⟨hrr, hX⟩
        refine s_goto C 63 dX7_ask_46 (by decide) ?_
        exact s_ireturn C hA dX7_ask_63 (by rw [sp_ask, if_pos (by omega), ih_n_nI hkn, if_pos h29]; exact ⟨hrr, hX⟩)
    · replace h14 := ih_b0 hrw11 h14
      refine s_ldc (v := (-1000001)) C (by decide +kernel) dX7_ask_17 ?_
      exact s_ireturn C hA dX7_ask_19 (by rw [sp_ask, if_neg (by omega)]; exact ⟨rfl, hX⟩)

